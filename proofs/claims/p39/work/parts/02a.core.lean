/-! states by keys and roles, worlds out of them, and the walk's judgement over a world: my own layer over the kit's rows -/
/-- a world: the things of the roles in L, then others -/
def wF (A : Nat → Nat) (E : St → Nat → va_E) (L : List Nat) (X : va_W) (σ : St) : va_W := L.map (fun j => (A j, E σ j)) ++ X
theorem wF_get {A : Nat → Nat} {E : St → Nat → va_E} {L : List Nat} {X : va_W} {σ : St} {j : Nat} (hj : j ∈ L) : ∃ k : Nat, (wF A E L X σ)[k]? = some (A j, E σ j) := by
  have h : (A j, E σ j) ∈ wF A E L X σ := List.mem_append_left _ (List.mem_map.mpr ⟨j, hj, rfl⟩)
  exact List.getElem?_of_mem h
theorem wF_at {B : Nat → Prop} {A : Nat → Nat} {E : St → Nat → va_E} {L : List Nat} {X : va_W} {σ : St} (hD : va_D B (wF A E L X σ)) {j : Nat} (hj : j ∈ L) :
    ∃ k : Nat, (wF A E L X σ)[k]? = some (A j, E σ j) ∧ ∀ (e : va_E) (σ' : St), (∀ i ∈ L, E σ' i = if i = j then e else E σ i) → (wF A E L X σ).set k (A j, e) = wF A E L X σ' := by
  obtain ⟨k, hk⟩ := List.getElem?_of_mem hj
  have hlt : k < L.length := (List.getElem?_eq_some_iff.mp hk).1
  have hgetq : ∀ (i x : Nat), L[i]? = some x → (wF A E L X σ)[i]? = some (A x, E σ x) := by
    intro i x hx
    have hi : i < L.length := (List.getElem?_eq_some_iff.mp hx).1
    unfold wF
    rw [List.getElem?_append_left (by rw [List.length_map]; exact hi), List.getElem?_map, hx]
    rfl
  refine ⟨k, hgetq k j hk, fun e σ' hE => ?_⟩
  unfold wF
  rw [List.set_append_left _ _ (by rw [List.length_map]; exact hlt)]
  congr 1
  apply List.ext_getElem?
  intro i
  rw [List.getElem?_set, List.getElem?_map, List.getElem?_map, List.length_map]
  by_cases hik : k = i
  · subst hik
    rw [if_pos rfl, if_pos hlt, hk]
    show _ = some (A j, E σ' j)
    rw [hE j hj, if_pos rfl]
  · rw [if_neg hik]
    cases hx : L[i]? with
    | none => rfl
    | some x =>
      show some (A x, E σ x) = some (A x, E σ' x)
      have hne : x ≠ j := by
        intro h
        subst h
        exact hik (hD.1 k i _ _ (hgetq k x hk) (hgetq i x hx) rfl)
      rw [hE x (List.mem_of_getElem? hx), if_neg hne]
/-- what the body of a method has at hand; ZZ: what its class's statics, textsq and constants hold -/
def gC (ZZ : (Nat → Prop) → State → Heap → Prop) (p : Program) (s : State) (m : MethodId) (args : Array Value) (meth : Method) (c : Code) (D : va_G) (tys : List (ClassId × FieldType)) (A : Nat → Prop) (cc : ByteArray) (Ts : List Cond) (own : String) (nL : Nat) (ret : Option FieldType) : Prop :=
  CallFix p m c cc nL s args Ts own ∧ va_K D vwCl tys s ∧ (∀ q : Nat, s.heap.size ≤ q → A q) ∧ ZZ A s s.heap ∧ meth.sig.returnType = ret ∧ meth.locks = false
/-- the walk stands at pc with these locals, this stack and this world (k cells, n slots used) -/
def gG (p : Program) (l : Launch) (e : Env) (R : Room) (s : State) (m : MethodId) (args : Array Value) (below : List Frame) (meth : Method) (c : Code) (D : va_G) (tys : List (ClassId × FieldType)) (A : Nat → Prop) (nL : Nat) (Q : State → Prop) (ws : va_W) (k n pc : Nat) (lv : List (Nat × Value)) (st : List Value) : Prop :=
  ∀ (H : Heap) (locs : List Loc) (ls : Array Slot), va_P D vwCl ws H → va_D A ws → va_S A s.heap H locs → lv_has ls nL lv → W p l e R s m args below meth c H locs k n Q (F0 m pc ls st)
section GG
variable {p : Program} {l : Launch} {e : Env} {R : Room} {s : State} {m : MethodId} {args : Array Value} {below : List Frame} {meth : Method} {c : Code} {D : va_G} {tys : List (ClassId × FieldType)} {A : Nat → Prop} {nL : Nat} {Q : State → Prop} {cc : ByteArray} {Ts : List Cond} {own : String} {ret : Option FieldType} {ZZ : (Nat → Prop) → State → Heap → Prop}
variable {ws : va_W} {k n pc : Nat} {lv : List (Nat × Value)} {st : List Value}
theorem g_eq {pc' : Nat} {lv' : List (Nat × Value)} {st' : List Value} {ws' : va_W} (h1 : pc = pc') (h2 : lv = lv') (h3 : st = st') (h4 : ws = ws') (h : gG p l e R s m args below meth c D tys A nL Q ws k n pc' lv' st') : gG p l e R s m args below meth c D tys A nL Q ws k n pc lv st := by
  subst h1; subst h2; subst h3; subst h4; exact h
theorem g_sub (ks : List Nat) {lv' : List (Nat × Value)} (hl : lv_pick lv ks = lv') (h : gG p l e R s m args below meth c D tys A nL Q ws k n pc lv' st) : gG p l e R s m args below meth c D tys A nL Q ws k n pc lv st := fun H locs ls hP hD hSs hl0 => h H locs ls hP hD hSs (lv_sub hl0 ks hl)
theorem g_wid {k' n' : Nat} (h1 : k ≤ k') (h2 : n ≤ n') (h : gG p l e R s m args below meth c D tys A nL Q ws k' n' pc lv st) : gG p l e R s m args below meth c D tys A nL Q ws k n pc lv st := fun H locs ls hP hD hSs hl0 => W.widen h1 h2 (h H locs ls hP hD hSs hl0)

theorem g_iload_n (X : gC ZZ p s m args meth c D tys A cc Ts own nL ret) {k9 : Fin 4} {i : Nat} {x : Int32} (hdg : decode cc pc = .ok (.iload_n k9, 1)) (hi : (k9 : Nat) = i) (q : Nat) (hl : lv[q]? = some (i, .int x)) (kk : gG p l e R s m args below meth c D tys A nL Q ws k n (pc + 1) lv (.int x :: st)) : gG p l e R s m args below meth c D tys A nL Q ws k n pc lv st :=
  fun H locs ls hP hD hSs hl0 => lv_iload_n X.1.1 X.1.2.1 hdg hi (lv_at hl0 q hl) (kk H locs ls hP hD hSs hl0)
theorem g_iload (X : gC ZZ p s m args meth c D tys A cc Ts own nL ret) {i : Nat} {x : Int32} (hdg : decode cc pc = .ok (.iload i, 2)) (q : Nat) (hl : lv[q]? = some (i, .int x)) (kk : gG p l e R s m args below meth c D tys A nL Q ws k n (pc + 2) lv (.int x :: st)) : gG p l e R s m args below meth c D tys A nL Q ws k n pc lv st :=
  fun H locs ls hP hD hSs hl0 => lv_iload X.1.1 X.1.2.1 hdg (lv_at hl0 q hl) (kk H locs ls hP hD hSs hl0)
theorem g_istore_n (X : gC ZZ p s m args meth c D tys A cc Ts own nL ret) {k9 : Fin 4} {i : Nat} {x : Int32} {lv' : List (Nat × Value)} (hdg : decode cc pc = .ok (.istore_n k9, 1)) (hi : (k9 : Nat) = i) (hn : i < nL) (hl : (i, Value.int x) :: lv.filter (fun q => !(q.1 == i) && !(q.1 + 1 == i && q.2.category == 2)) = lv') (kk : gG p l e R s m args below meth c D tys A nL Q ws k n (pc + 1) lv' st) : gG p l e R s m args below meth c D tys A nL Q ws k n pc lv (.int x :: st) :=
  fun H locs ls hP hD hSs hl0 => lv_istore_n X.1.1 X.1.2.1 hdg hi hl0 hn hl (fun ls hl0 => kk H locs ls hP hD hSs hl0)
theorem g_istore (X : gC ZZ p s m args meth c D tys A cc Ts own nL ret) {i : Nat} {x : Int32} {lv' : List (Nat × Value)} (hdg : decode cc pc = .ok (.istore i, 2)) (hn : i < nL) (hl : (i, Value.int x) :: lv.filter (fun q => !(q.1 == i) && !(q.1 + 1 == i && q.2.category == 2)) = lv') (kk : gG p l e R s m args below meth c D tys A nL Q ws k n (pc + 2) lv' st) : gG p l e R s m args below meth c D tys A nL Q ws k n pc lv (.int x :: st) :=
  fun H locs ls hP hD hSs hl0 => lv_istore X.1.1 X.1.2.1 hdg hl0 hn hl (fun ls hl0 => kk H locs ls hP hD hSs hl0)
theorem g_lload_n (X : gC ZZ p s m args meth c D tys A cc Ts own nL ret) {k9 : Fin 4} {i : Nat} {x : Int64} (hdg : decode cc pc = .ok (.lload_n k9, 1)) (hi : (k9 : Nat) = i) (q : Nat) (hl : lv[q]? = some (i, .long x)) (kk : gG p l e R s m args below meth c D tys A nL Q ws k n (pc + 1) lv (.long x :: st)) : gG p l e R s m args below meth c D tys A nL Q ws k n pc lv st :=
  fun H locs ls hP hD hSs hl0 => lv_lload_n X.1.1 X.1.2.1 hdg hi (lv_at hl0 q hl) (kk H locs ls hP hD hSs hl0)
theorem g_lload (X : gC ZZ p s m args meth c D tys A cc Ts own nL ret) {i : Nat} {x : Int64} (hdg : decode cc pc = .ok (.lload i, 2)) (q : Nat) (hl : lv[q]? = some (i, .long x)) (kk : gG p l e R s m args below meth c D tys A nL Q ws k n (pc + 2) lv (.long x :: st)) : gG p l e R s m args below meth c D tys A nL Q ws k n pc lv st :=
  fun H locs ls hP hD hSs hl0 => lv_lload X.1.1 X.1.2.1 hdg (lv_at hl0 q hl) (kk H locs ls hP hD hSs hl0)
theorem g_lstore_n (X : gC ZZ p s m args meth c D tys A cc Ts own nL ret) {k9 : Fin 4} {i : Nat} {x : Int64} {lv' : List (Nat × Value)} (hdg : decode cc pc = .ok (.lstore_n k9, 1)) (hi : (k9 : Nat) = i) (hn : i + 1 < nL) (hl : (i, Value.long x) :: lv.filter (fun q => !(q.1 == i) && (!(q.1 == i + 1) && !(q.1 + 1 == i && q.2.category == 2))) = lv') (kk : gG p l e R s m args below meth c D tys A nL Q ws k n (pc + 1) lv' st) : gG p l e R s m args below meth c D tys A nL Q ws k n pc lv (.long x :: st) :=
  fun H locs ls hP hD hSs hl0 => lv_lstore_n X.1.1 X.1.2.1 hdg hi hl0 hn hl (fun ls hl0 => kk H locs ls hP hD hSs hl0)
theorem g_lstore (X : gC ZZ p s m args meth c D tys A cc Ts own nL ret) {i : Nat} {x : Int64} {lv' : List (Nat × Value)} (hdg : decode cc pc = .ok (.lstore i, 2)) (hn : i + 1 < nL) (hl : (i, Value.long x) :: lv.filter (fun q => !(q.1 == i) && (!(q.1 == i + 1) && !(q.1 + 1 == i && q.2.category == 2))) = lv') (kk : gG p l e R s m args below meth c D tys A nL Q ws k n (pc + 2) lv' st) : gG p l e R s m args below meth c D tys A nL Q ws k n pc lv (.long x :: st) :=
  fun H locs ls hP hD hSs hl0 => lv_lstore X.1.1 X.1.2.1 hdg hl0 hn hl (fun ls hl0 => kk H locs ls hP hD hSs hl0)
theorem g_fload_n (X : gC ZZ p s m args meth c D tys A cc Ts own nL ret) {k9 : Fin 4} {i : Nat} {x : UInt32} (hdg : decode cc pc = .ok (.fload_n k9, 1)) (hi : (k9 : Nat) = i) (q : Nat) (hl : lv[q]? = some (i, .float x)) (kk : gG p l e R s m args below meth c D tys A nL Q ws k n (pc + 1) lv (.float x :: st)) : gG p l e R s m args below meth c D tys A nL Q ws k n pc lv st :=
  fun H locs ls hP hD hSs hl0 => lv_fload_n X.1.1 X.1.2.1 hdg hi (lv_at hl0 q hl) (kk H locs ls hP hD hSs hl0)
theorem g_fload (X : gC ZZ p s m args meth c D tys A cc Ts own nL ret) {i : Nat} {x : UInt32} (hdg : decode cc pc = .ok (.fload i, 2)) (q : Nat) (hl : lv[q]? = some (i, .float x)) (kk : gG p l e R s m args below meth c D tys A nL Q ws k n (pc + 2) lv (.float x :: st)) : gG p l e R s m args below meth c D tys A nL Q ws k n pc lv st :=
  fun H locs ls hP hD hSs hl0 => lv_fload X.1.1 X.1.2.1 hdg (lv_at hl0 q hl) (kk H locs ls hP hD hSs hl0)
theorem g_fstore_n (X : gC ZZ p s m args meth c D tys A cc Ts own nL ret) {k9 : Fin 4} {i : Nat} {x : UInt32} {lv' : List (Nat × Value)} (hdg : decode cc pc = .ok (.fstore_n k9, 1)) (hi : (k9 : Nat) = i) (hn : i < nL) (hl : (i, Value.float x) :: lv.filter (fun q => !(q.1 == i) && !(q.1 + 1 == i && q.2.category == 2)) = lv') (kk : gG p l e R s m args below meth c D tys A nL Q ws k n (pc + 1) lv' st) : gG p l e R s m args below meth c D tys A nL Q ws k n pc lv (.float x :: st) :=
  fun H locs ls hP hD hSs hl0 => lv_fstore_n X.1.1 X.1.2.1 hdg hi hl0 hn hl (fun ls hl0 => kk H locs ls hP hD hSs hl0)
theorem g_fstore (X : gC ZZ p s m args meth c D tys A cc Ts own nL ret) {i : Nat} {x : UInt32} {lv' : List (Nat × Value)} (hdg : decode cc pc = .ok (.fstore i, 2)) (hn : i < nL) (hl : (i, Value.float x) :: lv.filter (fun q => !(q.1 == i) && !(q.1 + 1 == i && q.2.category == 2)) = lv') (kk : gG p l e R s m args below meth c D tys A nL Q ws k n (pc + 2) lv' st) : gG p l e R s m args below meth c D tys A nL Q ws k n pc lv (.float x :: st) :=
  fun H locs ls hP hD hSs hl0 => lv_fstore X.1.1 X.1.2.1 hdg hl0 hn hl (fun ls hl0 => kk H locs ls hP hD hSs hl0)
theorem g_dload_n (X : gC ZZ p s m args meth c D tys A cc Ts own nL ret) {k9 : Fin 4} {i : Nat} {x : UInt64} (hdg : decode cc pc = .ok (.dload_n k9, 1)) (hi : (k9 : Nat) = i) (q : Nat) (hl : lv[q]? = some (i, .double x)) (kk : gG p l e R s m args below meth c D tys A nL Q ws k n (pc + 1) lv (.double x :: st)) : gG p l e R s m args below meth c D tys A nL Q ws k n pc lv st :=
  fun H locs ls hP hD hSs hl0 => lv_dload_n X.1.1 X.1.2.1 hdg hi (lv_at hl0 q hl) (kk H locs ls hP hD hSs hl0)
theorem g_dload (X : gC ZZ p s m args meth c D tys A cc Ts own nL ret) {i : Nat} {x : UInt64} (hdg : decode cc pc = .ok (.dload i, 2)) (q : Nat) (hl : lv[q]? = some (i, .double x)) (kk : gG p l e R s m args below meth c D tys A nL Q ws k n (pc + 2) lv (.double x :: st)) : gG p l e R s m args below meth c D tys A nL Q ws k n pc lv st :=
  fun H locs ls hP hD hSs hl0 => lv_dload X.1.1 X.1.2.1 hdg (lv_at hl0 q hl) (kk H locs ls hP hD hSs hl0)
theorem g_dstore_n (X : gC ZZ p s m args meth c D tys A cc Ts own nL ret) {k9 : Fin 4} {i : Nat} {x : UInt64} {lv' : List (Nat × Value)} (hdg : decode cc pc = .ok (.dstore_n k9, 1)) (hi : (k9 : Nat) = i) (hn : i + 1 < nL) (hl : (i, Value.double x) :: lv.filter (fun q => !(q.1 == i) && (!(q.1 == i + 1) && !(q.1 + 1 == i && q.2.category == 2))) = lv') (kk : gG p l e R s m args below meth c D tys A nL Q ws k n (pc + 1) lv' st) : gG p l e R s m args below meth c D tys A nL Q ws k n pc lv (.double x :: st) :=
  fun H locs ls hP hD hSs hl0 => lv_dstore_n X.1.1 X.1.2.1 hdg hi hl0 hn hl (fun ls hl0 => kk H locs ls hP hD hSs hl0)
theorem g_dstore (X : gC ZZ p s m args meth c D tys A cc Ts own nL ret) {i : Nat} {x : UInt64} {lv' : List (Nat × Value)} (hdg : decode cc pc = .ok (.dstore i, 2)) (hn : i + 1 < nL) (hl : (i, Value.double x) :: lv.filter (fun q => !(q.1 == i) && (!(q.1 == i + 1) && !(q.1 + 1 == i && q.2.category == 2))) = lv') (kk : gG p l e R s m args below meth c D tys A nL Q ws k n (pc + 2) lv' st) : gG p l e R s m args below meth c D tys A nL Q ws k n pc lv (.double x :: st) :=
  fun H locs ls hP hD hSs hl0 => lv_dstore X.1.1 X.1.2.1 hdg hl0 hn hl (fun ls hl0 => kk H locs ls hP hD hSs hl0)
theorem g_aload_n (X : gC ZZ p s m args meth c D tys A cc Ts own nL ret) {k9 : Fin 4} {i : Nat} {x : Nat} (hdg : decode cc pc = .ok (.aload_n k9, 1)) (hi : (k9 : Nat) = i) (q : Nat) (hl : lv[q]? = some (i, .ref x)) (kk : gG p l e R s m args below meth c D tys A nL Q ws k n (pc + 1) lv (.ref x :: st)) : gG p l e R s m args below meth c D tys A nL Q ws k n pc lv st :=
  fun H locs ls hP hD hSs hl0 => lv_aload_n X.1.1 X.1.2.1 hdg hi (lv_at hl0 q hl) (kk H locs ls hP hD hSs hl0)
theorem g_aload (X : gC ZZ p s m args meth c D tys A cc Ts own nL ret) {i : Nat} {x : Nat} (hdg : decode cc pc = .ok (.aload i, 2)) (q : Nat) (hl : lv[q]? = some (i, .ref x)) (kk : gG p l e R s m args below meth c D tys A nL Q ws k n (pc + 2) lv (.ref x :: st)) : gG p l e R s m args below meth c D tys A nL Q ws k n pc lv st :=
  fun H locs ls hP hD hSs hl0 => lv_aload X.1.1 X.1.2.1 hdg (lv_at hl0 q hl) (kk H locs ls hP hD hSs hl0)
theorem g_astore_n (X : gC ZZ p s m args meth c D tys A cc Ts own nL ret) {k9 : Fin 4} {i : Nat} {x : Nat} {lv' : List (Nat × Value)} (hdg : decode cc pc = .ok (.astore_n k9, 1)) (hi : (k9 : Nat) = i) (hn : i < nL) (hl : (i, Value.ref x) :: lv.filter (fun q => !(q.1 == i) && !(q.1 + 1 == i && q.2.category == 2)) = lv') (kk : gG p l e R s m args below meth c D tys A nL Q ws k n (pc + 1) lv' st) : gG p l e R s m args below meth c D tys A nL Q ws k n pc lv (.ref x :: st) :=
  fun H locs ls hP hD hSs hl0 => lv_astore_n X.1.1 X.1.2.1 hdg hi hl0 hn hl (fun ls hl0 => kk H locs ls hP hD hSs hl0)
theorem g_astore (X : gC ZZ p s m args meth c D tys A cc Ts own nL ret) {i : Nat} {x : Nat} {lv' : List (Nat × Value)} (hdg : decode cc pc = .ok (.astore i, 2)) (hn : i < nL) (hl : (i, Value.ref x) :: lv.filter (fun q => !(q.1 == i) && !(q.1 + 1 == i && q.2.category == 2)) = lv') (kk : gG p l e R s m args below meth c D tys A nL Q ws k n (pc + 2) lv' st) : gG p l e R s m args below meth c D tys A nL Q ws k n pc lv (.ref x :: st) :=
  fun H locs ls hP hD hSs hl0 => lv_astore X.1.1 X.1.2.1 hdg hl0 hn hl (fun ls hl0 => kk H locs ls hP hD hSs hl0)
theorem g_iinc (X : gC ZZ p s m args meth c D tys A cc Ts own nL ret) {i : Nat} {n9 : Int} {x v : Int32} {lv' : List (Nat × Value)} (hdg : decode cc pc = .ok (.iinc i n9, 3)) (q : Nat) (hk : lv[q]? = some (i, .int x)) (hv : x + Int32.ofInt n9 = v) (hn : i < nL) (hl : (i, Value.int v) :: lv.filter (fun q => !(q.1 == i) && !(q.1 + 1 == i && q.2.category == 2)) = lv') (kk : gG p l e R s m args below meth c D tys A nL Q ws k n (pc + 3) lv' st) : gG p l e R s m args below meth c D tys A nL Q ws k n pc lv st :=
  fun H locs ls hP hD hSs hl0 => lv_iinc X.1.1 X.1.2.1 hdg hl0 hk hv hn hl (fun ls hl0 => kk H locs ls hP hD hSs hl0)
theorem g_iconst (X : gC ZZ p s m args meth c D tys A cc Ts own nL ret) {n9 : Int} {v : Int32} (hdg : decode cc pc = .ok (.iconst n9, 1)) (hv : Int32.ofInt n9 = v) (kk : gG p l e R s m args below meth c D tys A nL Q ws k n (pc + 1) lv (.int v :: st)) : gG p l e R s m args below meth c D tys A nL Q ws k n pc lv st :=
  fun H locs ls hP hD hSs hl0 => lv_iconst X.1.1 X.1.2.1 hdg hv (kk H locs ls hP hD hSs hl0)
theorem g_bipush (X : gC ZZ p s m args meth c D tys A cc Ts own nL ret) {n9 : Int} {v : Int32} (hdg : decode cc pc = .ok (.bipush n9, 2)) (hv : (Int8.ofInt n9).toInt32 = v) (kk : gG p l e R s m args below meth c D tys A nL Q ws k n (pc + 2) lv (.int v :: st)) : gG p l e R s m args below meth c D tys A nL Q ws k n pc lv st :=
  fun H locs ls hP hD hSs hl0 => lv_bipush X.1.1 X.1.2.1 hdg hv (kk H locs ls hP hD hSs hl0)
theorem g_sipush (X : gC ZZ p s m args meth c D tys A cc Ts own nL ret) {n9 : Int} {v : Int32} (hdg : decode cc pc = .ok (.sipush n9, 3)) (hv : (Int16.ofInt n9).toInt32 = v) (kk : gG p l e R s m args below meth c D tys A nL Q ws k n (pc + 3) lv (.int v :: st)) : gG p l e R s m args below meth c D tys A nL Q ws k n pc lv st :=
  fun H locs ls hP hD hSs hl0 => lv_sipush X.1.1 X.1.2.1 hdg hv (kk H locs ls hP hD hSs hl0)
theorem g_lconst (X : gC ZZ p s m args meth c D tys A cc Ts own nL ret) {n9 : Fin 2} {v : Int64} (hdg : decode cc pc = .ok (.lconst n9, 1)) (hv : Int64.ofNat (n9 : Nat) = v) (kk : gG p l e R s m args below meth c D tys A nL Q ws k n (pc + 1) lv (.long v :: st)) : gG p l e R s m args below meth c D tys A nL Q ws k n pc lv st :=
  fun H locs ls hP hD hSs hl0 => lv_lconst X.1.1 X.1.2.1 hdg hv (kk H locs ls hP hD hSs hl0)
theorem g_ldc (X : gC ZZ p s m args meth c D tys A cc Ts own nL ret) {index : Nat} {v : Int32} (hdg : decode cc pc = .ok (.ldc index, 2)) (hw : Jvm.Cond.constant own index v ∈ Ts) (kk : gG p l e R s m args below meth c D tys A nL Q ws k n (pc + 2) lv (.int v :: st)) : gG p l e R s m args below meth c D tys A nL Q ws k n pc lv st :=
  fun H locs ls hP hD hSs hl0 => lv_ldc X.1.1 X.1.2.1 X.1.2.2.2.1 (X.1.2.2.2.2 _ hw) hdg (kk H locs ls hP hD hSs hl0)
theorem g_ldcw (X : gC ZZ p s m args meth c D tys A cc Ts own nL ret) {index : Nat} {v : Int32} (hdg : decode cc pc = .ok (.ldc_w index, 3)) (hw : Jvm.Cond.constant own index v ∈ Ts) (kk : gG p l e R s m args below meth c D tys A nL Q ws k n (pc + 3) lv (.int v :: st)) : gG p l e R s m args below meth c D tys A nL Q ws k n pc lv st :=
  fun H locs ls hP hD hSs hl0 => lv_ldcw X.1.1 X.1.2.1 X.1.2.2.2.1 (X.1.2.2.2.2 _ hw) hdg (kk H locs ls hP hD hSs hl0)
theorem g_ldc2 (X : gC ZZ p s m args meth c D tys A cc Ts own nL ret) {index : Nat} {v : Int64} (hdg : decode cc pc = .ok (.ldc2_w index, 3)) (hw : Jvm.Cond.constantLong own index v ∈ Ts) (kk : gG p l e R s m args below meth c D tys A nL Q ws k n (pc + 3) lv (.long v :: st)) : gG p l e R s m args below meth c D tys A nL Q ws k n pc lv st :=
  fun H locs ls hP hD hSs hl0 => lv_ldc2 X.1.1 X.1.2.1 X.1.2.2.2.1 (X.1.2.2.2.2 _ hw) hdg (kk H locs ls hP hD hSs hl0)
theorem g_dconst (X : gC ZZ p s m args meth c D tys A cc Ts own nL ret)  (hdg : decode cc pc = .ok (.dconst 0, 1))  (kk : gG p l e R s m args below meth c D tys A nL Q ws k n (pc + 1) lv (.double FP.dconst0 :: st)) : gG p l e R s m args below meth c D tys A nL Q ws k n pc lv st :=
  fun H locs ls hP hD hSs hl0 => lv_dconst0 X.1.1 X.1.2.1 hdg (kk H locs ls hP hD hSs hl0)
theorem g_fconst (X : gC ZZ p s m args meth c D tys A cc Ts own nL ret)  (hdg : decode cc pc = .ok (.fconst 0, 1))  (kk : gG p l e R s m args below meth c D tys A nL Q ws k n (pc + 1) lv (.float FP.fconst0 :: st)) : gG p l e R s m args below meth c D tys A nL Q ws k n pc lv st :=
  fun H locs ls hP hD hSs hl0 => lv_fconst0 X.1.1 X.1.2.1 hdg (kk H locs ls hP hD hSs hl0)
theorem g_iadd (X : gC ZZ p s m args meth c D tys A cc Ts own nL ret) {x y : Int32} (hdg : decode cc pc = .ok (.iadd, 1))  (kk : gG p l e R s m args below meth c D tys A nL Q ws k n (pc + 1) lv (.int (x + y) :: st)) : gG p l e R s m args below meth c D tys A nL Q ws k n pc lv (.int y :: .int x :: st) :=
  fun H locs ls hP hD hSs hl0 => lv_iadd X.1.1 X.1.2.1 hdg (kk H locs ls hP hD hSs hl0)
theorem g_isub (X : gC ZZ p s m args meth c D tys A cc Ts own nL ret) {x y : Int32} (hdg : decode cc pc = .ok (.isub, 1))  (kk : gG p l e R s m args below meth c D tys A nL Q ws k n (pc + 1) lv (.int (x - y) :: st)) : gG p l e R s m args below meth c D tys A nL Q ws k n pc lv (.int y :: .int x :: st) :=
  fun H locs ls hP hD hSs hl0 => lv_isub X.1.1 X.1.2.1 hdg (kk H locs ls hP hD hSs hl0)
theorem g_imul (X : gC ZZ p s m args meth c D tys A cc Ts own nL ret) {x y : Int32} (hdg : decode cc pc = .ok (.imul, 1))  (kk : gG p l e R s m args below meth c D tys A nL Q ws k n (pc + 1) lv (.int (x * y) :: st)) : gG p l e R s m args below meth c D tys A nL Q ws k n pc lv (.int y :: .int x :: st) :=
  fun H locs ls hP hD hSs hl0 => lv_imul X.1.1 X.1.2.1 hdg (kk H locs ls hP hD hSs hl0)
theorem g_iand (X : gC ZZ p s m args meth c D tys A cc Ts own nL ret) {x y : Int32} (hdg : decode cc pc = .ok (.iand, 1))  (kk : gG p l e R s m args below meth c D tys A nL Q ws k n (pc + 1) lv (.int (x &&& y) :: st)) : gG p l e R s m args below meth c D tys A nL Q ws k n pc lv (.int y :: .int x :: st) :=
  fun H locs ls hP hD hSs hl0 => lv_iand X.1.1 X.1.2.1 hdg (kk H locs ls hP hD hSs hl0)
theorem g_ior (X : gC ZZ p s m args meth c D tys A cc Ts own nL ret) {x y : Int32} (hdg : decode cc pc = .ok (.ior, 1))  (kk : gG p l e R s m args below meth c D tys A nL Q ws k n (pc + 1) lv (.int (x ||| y) :: st)) : gG p l e R s m args below meth c D tys A nL Q ws k n pc lv (.int y :: .int x :: st) :=
  fun H locs ls hP hD hSs hl0 => lv_ior X.1.1 X.1.2.1 hdg (kk H locs ls hP hD hSs hl0)
theorem g_ladd (X : gC ZZ p s m args meth c D tys A cc Ts own nL ret) {x y : Int64} (hdg : decode cc pc = .ok (.ladd, 1))  (kk : gG p l e R s m args below meth c D tys A nL Q ws k n (pc + 1) lv (.long (x + y) :: st)) : gG p l e R s m args below meth c D tys A nL Q ws k n pc lv (.long y :: .long x :: st) :=
  fun H locs ls hP hD hSs hl0 => lv_ladd X.1.1 X.1.2.1 hdg (kk H locs ls hP hD hSs hl0)
theorem g_lmul (X : gC ZZ p s m args meth c D tys A cc Ts own nL ret) {x y : Int64} (hdg : decode cc pc = .ok (.lmul, 1))  (kk : gG p l e R s m args below meth c D tys A nL Q ws k n (pc + 1) lv (.long (x * y) :: st)) : gG p l e R s m args below meth c D tys A nL Q ws k n pc lv (.long y :: .long x :: st) :=
  fun H locs ls hP hD hSs hl0 => lv_lmul X.1.1 X.1.2.1 hdg (kk H locs ls hP hD hSs hl0)
theorem g_land (X : gC ZZ p s m args meth c D tys A cc Ts own nL ret) {x y : Int64} (hdg : decode cc pc = .ok (.land, 1))  (kk : gG p l e R s m args below meth c D tys A nL Q ws k n (pc + 1) lv (.long (x &&& y) :: st)) : gG p l e R s m args below meth c D tys A nL Q ws k n pc lv (.long y :: .long x :: st) :=
  fun H locs ls hP hD hSs hl0 => lv_land X.1.1 X.1.2.1 hdg (kk H locs ls hP hD hSs hl0)
theorem g_lor (X : gC ZZ p s m args meth c D tys A cc Ts own nL ret) {x y : Int64} (hdg : decode cc pc = .ok (.lor, 1))  (kk : gG p l e R s m args below meth c D tys A nL Q ws k n (pc + 1) lv (.long (x ||| y) :: st)) : gG p l e R s m args below meth c D tys A nL Q ws k n pc lv (.long y :: .long x :: st) :=
  fun H locs ls hP hD hSs hl0 => lv_lor X.1.1 X.1.2.1 hdg (kk H locs ls hP hD hSs hl0)
theorem g_idiv (X : gC ZZ p s m args meth c D tys A cc Ts own nL ret) {x y : Int32} (hdg : decode cc pc = .ok (.idiv, 1)) (hne : ¬ y = 0) (kk : gG p l e R s m args below meth c D tys A nL Q ws k n (pc + 1) lv (.int (x / y) :: st)) : gG p l e R s m args below meth c D tys A nL Q ws k n pc lv (.int y :: .int x :: st) :=
  fun H locs ls hP hD hSs hl0 => lv_idiv X.1.1 X.1.2.1 hdg hne (kk H locs ls hP hD hSs hl0)
theorem g_irem (X : gC ZZ p s m args meth c D tys A cc Ts own nL ret) {x y : Int32} (hdg : decode cc pc = .ok (.irem, 1)) (hne : ¬ y = 0) (kk : gG p l e R s m args below meth c D tys A nL Q ws k n (pc + 1) lv (.int (x - x / y * y) :: st)) : gG p l e R s m args below meth c D tys A nL Q ws k n pc lv (.int y :: .int x :: st) :=
  fun H locs ls hP hD hSs hl0 => lv_irem X.1.1 X.1.2.1 hdg hne (kk H locs ls hP hD hSs hl0)
theorem g_ineg (X : gC ZZ p s m args meth c D tys A cc Ts own nL ret) {x : Int32} (hdg : decode cc pc = .ok (.ineg, 1))  (kk : gG p l e R s m args below meth c D tys A nL Q ws k n (pc + 1) lv (.int (-x) :: st)) : gG p l e R s m args below meth c D tys A nL Q ws k n pc lv (.int x :: st) :=
  fun H locs ls hP hD hSs hl0 => lv_ineg X.1.1 X.1.2.1 hdg (kk H locs ls hP hD hSs hl0)
theorem g_iushr (X : gC ZZ p s m args meth c D tys A cc Ts own nL ret) {x y : Int32} (hdg : decode cc pc = .ok (.iushr, 1))  (kk : gG p l e R s m args below meth c D tys A nL Q ws k n (pc + 1) lv (.int (x.toUInt32 >>> (y.toUInt32 &&& Int32.toUInt32 31)).toInt32 :: st)) : gG p l e R s m args below meth c D tys A nL Q ws k n pc lv (.int y :: .int x :: st) :=
  fun H locs ls hP hD hSs hl0 => lv_iushr X.1.1 X.1.2.1 hdg rfl (kk H locs ls hP hD hSs hl0)
theorem g_lushr (X : gC ZZ p s m args meth c D tys A cc Ts own nL ret) {x : Int64} {y : Int32} (hdg : decode cc pc = .ok (.lushr, 1))  (kk : gG p l e R s m args below meth c D tys A nL Q ws k n (pc + 1) lv (.long (x.toUInt64 >>> (y.toInt64.toUInt64 &&& Int64.toUInt64 63)).toInt64 :: st)) : gG p l e R s m args below meth c D tys A nL Q ws k n pc lv (.int y :: .long x :: st) :=
  fun H locs ls hP hD hSs hl0 => lv_lushr X.1.1 X.1.2.1 hdg rfl (kk H locs ls hP hD hSs hl0)
theorem g_lshl (X : gC ZZ p s m args meth c D tys A cc Ts own nL ret) {x : Int64} {y : Int32} (hdg : decode cc pc = .ok (.lshl, 1))  (kk : gG p l e R s m args below meth c D tys A nL Q ws k n (pc + 1) lv (.long (x <<< (y.toInt64 &&& 63)) :: st)) : gG p l e R s m args below meth c D tys A nL Q ws k n pc lv (.int y :: .long x :: st) :=
  fun H locs ls hP hD hSs hl0 => lv_lshl X.1.1 X.1.2.1 hdg rfl (kk H locs ls hP hD hSs hl0)
theorem g_i2l (X : gC ZZ p s m args meth c D tys A cc Ts own nL ret) {x : Int32} (hdg : decode cc pc = .ok (.i2l, 1))  (kk : gG p l e R s m args below meth c D tys A nL Q ws k n (pc + 1) lv (.long x.toInt64 :: st)) : gG p l e R s m args below meth c D tys A nL Q ws k n pc lv (.int x :: st) :=
  fun H locs ls hP hD hSs hl0 => lv_i2l X.1.1 X.1.2.1 hdg rfl (kk H locs ls hP hD hSs hl0)
theorem g_l2i (X : gC ZZ p s m args meth c D tys A cc Ts own nL ret) {x : Int64} (hdg : decode cc pc = .ok (.l2i, 1))  (kk : gG p l e R s m args below meth c D tys A nL Q ws k n (pc + 1) lv (.int x.toInt32 :: st)) : gG p l e R s m args below meth c D tys A nL Q ws k n pc lv (.long x :: st) :=
  fun H locs ls hP hD hSs hl0 => lv_l2i X.1.1 X.1.2.1 hdg rfl (kk H locs ls hP hD hSs hl0)
theorem g_i2b (X : gC ZZ p s m args meth c D tys A cc Ts own nL ret) {x : Int32} (hdg : decode cc pc = .ok (.i2b, 1))  (kk : gG p l e R s m args below meth c D tys A nL Q ws k n (pc + 1) lv (.int x.toInt8.toInt32 :: st)) : gG p l e R s m args below meth c D tys A nL Q ws k n pc lv (.int x :: st) :=
  fun H locs ls hP hD hSs hl0 => lv_i2b X.1.1 X.1.2.1 hdg rfl (kk H locs ls hP hD hSs hl0)
theorem g_i2d (X : gC ZZ p s m args meth c D tys A cc Ts own nL ret) {x : Int32} (hdg : decode cc pc = .ok (.i2d, 1))  (kk : gG p l e R s m args below meth c D tys A nL Q ws k n (pc + 1) lv (.double (FP.i2d x) :: st)) : gG p l e R s m args below meth c D tys A nL Q ws k n pc lv (.int x :: st) :=
  fun H locs ls hP hD hSs hl0 => lv_i2d X.1.1 X.1.2.1 hdg (kk H locs ls hP hD hSs hl0)
theorem g_l2d (X : gC ZZ p s m args meth c D tys A cc Ts own nL ret) {x : Int64} (hdg : decode cc pc = .ok (.l2d, 1))  (kk : gG p l e R s m args below meth c D tys A nL Q ws k n (pc + 1) lv (.double (FP.l2d x) :: st)) : gG p l e R s m args below meth c D tys A nL Q ws k n pc lv (.long x :: st) :=
  fun H locs ls hP hD hSs hl0 => lv_l2d X.1.1 X.1.2.1 hdg (kk H locs ls hP hD hSs hl0)
theorem g_i2f (X : gC ZZ p s m args meth c D tys A cc Ts own nL ret) {x : Int32} (hdg : decode cc pc = .ok (.i2f, 1))  (kk : gG p l e R s m args below meth c D tys A nL Q ws k n (pc + 1) lv (.float (FP.i2f x) :: st)) : gG p l e R s m args below meth c D tys A nL Q ws k n pc lv (.int x :: st) :=
  fun H locs ls hP hD hSs hl0 => lv_i2f X.1.1 X.1.2.1 hdg (kk H locs ls hP hD hSs hl0)
theorem g_f2d (X : gC ZZ p s m args meth c D tys A cc Ts own nL ret) {x : UInt32} (hdg : decode cc pc = .ok (.f2d, 1)) (hne : vf_n64 (FP.f2d x)) (kk : gG p l e R s m args below meth c D tys A nL Q ws k n (pc + 1) lv (.double (FP.f2d x) :: st)) : gG p l e R s m args below meth c D tys A nL Q ws k n pc lv (.float x :: st) :=
  fun H locs ls hP hD hSs hl0 => lv_f2d X.1.1 X.1.2.1 hdg hne (kk H locs ls hP hD hSs hl0)
theorem g_ddiv (X : gC ZZ p s m args meth c D tys A cc Ts own nL ret) {x y : UInt64} (hdg : decode cc pc = .ok (.ddiv, 1)) (hne : vf_n64 (FP.ddiv x y)) (kk : gG p l e R s m args below meth c D tys A nL Q ws k n (pc + 1) lv (.double (FP.ddiv x y) :: st)) : gG p l e R s m args below meth c D tys A nL Q ws k n pc lv (.double y :: .double x :: st) :=
  fun H locs ls hP hD hSs hl0 => lv_ddiv X.1.1 X.1.2.1 hdg hne (kk H locs ls hP hD hSs hl0)
theorem g_fdiv (X : gC ZZ p s m args meth c D tys A cc Ts own nL ret) {x y : UInt32} (hdg : decode cc pc = .ok (.fdiv, 1)) (hne : vf_n32 (FP.fdiv x y)) (kk : gG p l e R s m args below meth c D tys A nL Q ws k n (pc + 1) lv (.float (FP.fdiv x y) :: st)) : gG p l e R s m args below meth c D tys A nL Q ws k n pc lv (.float y :: .float x :: st) :=
  fun H locs ls hP hD hSs hl0 => lv_fdiv X.1.1 X.1.2.1 hdg hne (kk H locs ls hP hD hSs hl0)
theorem g_lcmp (X : gC ZZ p s m args meth c D tys A cc Ts own nL ret) {x y : Int64} (hdg : decode cc pc = .ok (.lcmp, 1))  (kk : gG p l e R s m args below meth c D tys A nL Q ws k n (pc + 1) lv (.int (lg_cmp x y) :: st)) : gG p l e R s m args below meth c D tys A nL Q ws k n pc lv (.long y :: .long x :: st) :=
  fun H locs ls hP hD hSs hl0 => W.lcmp X.1.1 X.1.2.1 hdg (kk H locs ls hP hD hSs hl0)
theorem g_dcmp (X : gC ZZ p s m args meth c D tys A cc Ts own nL ret) {x y : UInt64} {op : CmpOp} (hdg : decode cc pc = .ok (.dcmp op, 1))  (kk : gG p l e R s m args below meth c D tys A nL Q ws k n (pc + 1) lv (.int (Op.cmpValue (FP.dcmp x y) op) :: st)) : gG p l e R s m args below meth c D tys A nL Q ws k n pc lv (.double y :: .double x :: st) :=
  fun H locs ls hP hD hSs hl0 => lv_dcmp X.1.1 X.1.2.1 hdg (kk H locs ls hP hD hSs hl0)
theorem g_fcmp (X : gC ZZ p s m args meth c D tys A cc Ts own nL ret) {x y : UInt32} {op : CmpOp} (hdg : decode cc pc = .ok (.fcmp op, 1))  (kk : gG p l e R s m args below meth c D tys A nL Q ws k n (pc + 1) lv (.int (Op.cmpValue (FP.fcmp x y) op) :: st)) : gG p l e R s m args below meth c D tys A nL Q ws k n pc lv (.float y :: .float x :: st) :=
  fun H locs ls hP hD hSs hl0 => lv_fcmp X.1.1 X.1.2.1 hdg (kk H locs ls hP hD hSs hl0)
theorem g_dup (X : gC ZZ p s m args meth c D tys A cc Ts own nL ret) {va : Value} (hdg : decode cc pc = .ok (.dup, 1)) (hva : va.category = 1) (kk : gG p l e R s m args below meth c D tys A nL Q ws k n (pc + 1) lv (va :: va :: st)) : gG p l e R s m args below meth c D tys A nL Q ws k n pc lv (va :: st) :=
  fun H locs ls hP hD hSs hl0 => lv_dup X.1.1 X.1.2.1 hdg hva (kk H locs ls hP hD hSs hl0)
theorem g_pop (X : gC ZZ p s m args meth c D tys A cc Ts own nL ret) {va : Value} (hdg : decode cc pc = .ok (.pop, 1)) (hva : va.category = 1) (kk : gG p l e R s m args below meth c D tys A nL Q ws k n (pc + 1) lv st) : gG p l e R s m args below meth c D tys A nL Q ws k n pc lv (va :: st) :=
  fun H locs ls hP hD hSs hl0 => lv_pop X.1.1 X.1.2.1 hdg hva (kk H locs ls hP hD hSs hl0)
theorem g_dup2 (X : gC ZZ p s m args meth c D tys A cc Ts own nL ret) {va vb : Value} (hdg : decode cc pc = .ok (.dup2, 1)) (hva : va.category = 1) (hvb : vb.category = 1) (kk : gG p l e R s m args below meth c D tys A nL Q ws k n (pc + 1) lv (vb :: va :: vb :: va :: st)) : gG p l e R s m args below meth c D tys A nL Q ws k n pc lv (vb :: va :: st) :=
  fun H locs ls hP hD hSs hl0 => lv_dup2_11 X.1.1 X.1.2.1 hdg hvb hva (kk H locs ls hP hD hSs hl0)
theorem g_goto (X : gC ZZ p s m args meth c D tys A cc Ts own nL ret) {offq : Int} {tgt : Nat} (hdg : decode cc pc = .ok (.goto offq, 3)) (ht : (pc : Int) + offq = (tgt : Int)) (kk : gG p l e R s m args below meth c D tys A nL Q ws k n tgt lv st) : gG p l e R s m args below meth c D tys A nL Q ws k n pc lv st :=
  fun H locs ls hP hD hSs hl0 => lv_goto X.1.1 X.1.2.1 hdg ht (kk H locs ls hP hD hSs hl0)
theorem g_if_eq (X : gC ZZ p s m args meth c D tys A cc Ts own nL ret) {x : Int32} {offq : Int} {tgt : Nat} (hdg : decode cc pc = .ok (.ifCond .eq offq, 3)) (ht : (pc : Int) + offq = (tgt : Int)) (kt : x = 0 → gG p l e R s m args below meth c D tys A nL Q ws k n tgt lv st) (kf : ¬ (x = 0) → gG p l e R s m args below meth c D tys A nL Q ws k n (pc + 3) lv st) : gG p l e R s m args below meth c D tys A nL Q ws k n pc lv (.int x :: st) :=
  fun H locs ls hP hD hSs hl0 => lv_if_eq X.1.1 X.1.2.1 hdg ht (fun z => kt z H locs ls hP hD hSs hl0) (fun z => kf z H locs ls hP hD hSs hl0)
theorem g_if_ne (X : gC ZZ p s m args meth c D tys A cc Ts own nL ret) {x : Int32} {offq : Int} {tgt : Nat} (hdg : decode cc pc = .ok (.ifCond .ne offq, 3)) (ht : (pc : Int) + offq = (tgt : Int)) (kt : ¬ x = 0 → gG p l e R s m args below meth c D tys A nL Q ws k n tgt lv st) (kf : x = 0 → gG p l e R s m args below meth c D tys A nL Q ws k n (pc + 3) lv st) : gG p l e R s m args below meth c D tys A nL Q ws k n pc lv (.int x :: st) :=
  fun H locs ls hP hD hSs hl0 => lv_if_ne X.1.1 X.1.2.1 hdg ht (fun z => kt z H locs ls hP hD hSs hl0) (fun z => kf z H locs ls hP hD hSs hl0)
theorem g_if_lt (X : gC ZZ p s m args meth c D tys A cc Ts own nL ret) {x : Int32} {offq : Int} {tgt : Nat} (hdg : decode cc pc = .ok (.ifCond .lt offq, 3)) (ht : (pc : Int) + offq = (tgt : Int)) (kt : x < 0 → gG p l e R s m args below meth c D tys A nL Q ws k n tgt lv st) (kf : ¬ (x < 0) → gG p l e R s m args below meth c D tys A nL Q ws k n (pc + 3) lv st) : gG p l e R s m args below meth c D tys A nL Q ws k n pc lv (.int x :: st) :=
  fun H locs ls hP hD hSs hl0 => lv_if_lt X.1.1 X.1.2.1 hdg ht (fun z => kt z H locs ls hP hD hSs hl0) (fun z => kf z H locs ls hP hD hSs hl0)
theorem g_if_ge (X : gC ZZ p s m args meth c D tys A cc Ts own nL ret) {x : Int32} {offq : Int} {tgt : Nat} (hdg : decode cc pc = .ok (.ifCond .ge offq, 3)) (ht : (pc : Int) + offq = (tgt : Int)) (kt : 0 ≤ x → gG p l e R s m args below meth c D tys A nL Q ws k n tgt lv st) (kf : ¬ (0 ≤ x) → gG p l e R s m args below meth c D tys A nL Q ws k n (pc + 3) lv st) : gG p l e R s m args below meth c D tys A nL Q ws k n pc lv (.int x :: st) :=
  fun H locs ls hP hD hSs hl0 => lv_if_ge X.1.1 X.1.2.1 hdg ht (fun z => kt z H locs ls hP hD hSs hl0) (fun z => kf z H locs ls hP hD hSs hl0)
theorem g_if_gt (X : gC ZZ p s m args meth c D tys A cc Ts own nL ret) {x : Int32} {offq : Int} {tgt : Nat} (hdg : decode cc pc = .ok (.ifCond .gt offq, 3)) (ht : (pc : Int) + offq = (tgt : Int)) (kt : 0 < x → gG p l e R s m args below meth c D tys A nL Q ws k n tgt lv st) (kf : ¬ (0 < x) → gG p l e R s m args below meth c D tys A nL Q ws k n (pc + 3) lv st) : gG p l e R s m args below meth c D tys A nL Q ws k n pc lv (.int x :: st) :=
  fun H locs ls hP hD hSs hl0 => lv_if_gt X.1.1 X.1.2.1 hdg ht (fun z => kt z H locs ls hP hD hSs hl0) (fun z => kf z H locs ls hP hD hSs hl0)
theorem g_if_le (X : gC ZZ p s m args meth c D tys A cc Ts own nL ret) {x : Int32} {offq : Int} {tgt : Nat} (hdg : decode cc pc = .ok (.ifCond .le offq, 3)) (ht : (pc : Int) + offq = (tgt : Int)) (kt : x ≤ 0 → gG p l e R s m args below meth c D tys A nL Q ws k n tgt lv st) (kf : ¬ (x ≤ 0) → gG p l e R s m args below meth c D tys A nL Q ws k n (pc + 3) lv st) : gG p l e R s m args below meth c D tys A nL Q ws k n pc lv (.int x :: st) :=
  fun H locs ls hP hD hSs hl0 => lv_if_le X.1.1 X.1.2.1 hdg ht (fun z => kt z H locs ls hP hD hSs hl0) (fun z => kf z H locs ls hP hD hSs hl0)
theorem g_icmp_eq (X : gC ZZ p s m args meth c D tys A cc Ts own nL ret) {x y : Int32} {offq : Int} {tgt : Nat} (hdg : decode cc pc = .ok (.if_icmp .eq offq, 3)) (ht : (pc : Int) + offq = (tgt : Int)) (kt : x = y → gG p l e R s m args below meth c D tys A nL Q ws k n tgt lv st) (kf : ¬ (x = y) → gG p l e R s m args below meth c D tys A nL Q ws k n (pc + 3) lv st) : gG p l e R s m args below meth c D tys A nL Q ws k n pc lv (.int y :: .int x :: st) :=
  fun H locs ls hP hD hSs hl0 => lv_icmp_eq X.1.1 X.1.2.1 hdg ht (fun z => kt z H locs ls hP hD hSs hl0) (fun z => kf z H locs ls hP hD hSs hl0)
theorem g_icmp_ne (X : gC ZZ p s m args meth c D tys A cc Ts own nL ret) {x y : Int32} {offq : Int} {tgt : Nat} (hdg : decode cc pc = .ok (.if_icmp .ne offq, 3)) (ht : (pc : Int) + offq = (tgt : Int)) (kt : ¬ x = y → gG p l e R s m args below meth c D tys A nL Q ws k n tgt lv st) (kf : x = y → gG p l e R s m args below meth c D tys A nL Q ws k n (pc + 3) lv st) : gG p l e R s m args below meth c D tys A nL Q ws k n pc lv (.int y :: .int x :: st) :=
  fun H locs ls hP hD hSs hl0 => lv_icmp_ne X.1.1 X.1.2.1 hdg ht (fun z => kt z H locs ls hP hD hSs hl0) (fun z => kf z H locs ls hP hD hSs hl0)
theorem g_icmp_lt (X : gC ZZ p s m args meth c D tys A cc Ts own nL ret) {x y : Int32} {offq : Int} {tgt : Nat} (hdg : decode cc pc = .ok (.if_icmp .lt offq, 3)) (ht : (pc : Int) + offq = (tgt : Int)) (kt : x < y → gG p l e R s m args below meth c D tys A nL Q ws k n tgt lv st) (kf : ¬ (x < y) → gG p l e R s m args below meth c D tys A nL Q ws k n (pc + 3) lv st) : gG p l e R s m args below meth c D tys A nL Q ws k n pc lv (.int y :: .int x :: st) :=
  fun H locs ls hP hD hSs hl0 => lv_icmp_lt X.1.1 X.1.2.1 hdg ht (fun z => kt z H locs ls hP hD hSs hl0) (fun z => kf z H locs ls hP hD hSs hl0)
theorem g_icmp_ge (X : gC ZZ p s m args meth c D tys A cc Ts own nL ret) {x y : Int32} {offq : Int} {tgt : Nat} (hdg : decode cc pc = .ok (.if_icmp .ge offq, 3)) (ht : (pc : Int) + offq = (tgt : Int)) (kt : y ≤ x → gG p l e R s m args below meth c D tys A nL Q ws k n tgt lv st) (kf : ¬ (y ≤ x) → gG p l e R s m args below meth c D tys A nL Q ws k n (pc + 3) lv st) : gG p l e R s m args below meth c D tys A nL Q ws k n pc lv (.int y :: .int x :: st) :=
  fun H locs ls hP hD hSs hl0 => lv_icmp_ge X.1.1 X.1.2.1 hdg ht (fun z => kt z H locs ls hP hD hSs hl0) (fun z => kf z H locs ls hP hD hSs hl0)
theorem g_icmp_gt (X : gC ZZ p s m args meth c D tys A cc Ts own nL ret) {x y : Int32} {offq : Int} {tgt : Nat} (hdg : decode cc pc = .ok (.if_icmp .gt offq, 3)) (ht : (pc : Int) + offq = (tgt : Int)) (kt : y < x → gG p l e R s m args below meth c D tys A nL Q ws k n tgt lv st) (kf : ¬ (y < x) → gG p l e R s m args below meth c D tys A nL Q ws k n (pc + 3) lv st) : gG p l e R s m args below meth c D tys A nL Q ws k n pc lv (.int y :: .int x :: st) :=
  fun H locs ls hP hD hSs hl0 => lv_icmp_gt X.1.1 X.1.2.1 hdg ht (fun z => kt z H locs ls hP hD hSs hl0) (fun z => kf z H locs ls hP hD hSs hl0)
theorem g_icmp_le (X : gC ZZ p s m args meth c D tys A cc Ts own nL ret) {x y : Int32} {offq : Int} {tgt : Nat} (hdg : decode cc pc = .ok (.if_icmp .le offq, 3)) (ht : (pc : Int) + offq = (tgt : Int)) (kt : x ≤ y → gG p l e R s m args below meth c D tys A nL Q ws k n tgt lv st) (kf : ¬ (x ≤ y) → gG p l e R s m args below meth c D tys A nL Q ws k n (pc + 3) lv st) : gG p l e R s m args below meth c D tys A nL Q ws k n pc lv (.int y :: .int x :: st) :=
  fun H locs ls hP hD hSs hl0 => lv_icmp_le X.1.1 X.1.2.1 hdg ht (fun z => kt z H locs ls hP hD hSs hl0) (fun z => kf z H locs ls hP hD hSs hl0)
theorem g_tabOut (X : gC ZZ p s m args meth c D tys A cc Ts own nL ret) {dflt lo hi : Int} {offs : Array Int} {len : Nat} {x : Int32} {tgt : Nat} (hdg : decode cc pc = .ok (.tableswitch dflt lo hi offs, len)) (h : x.toInt < lo ∨ hi < x.toInt) (ht : (pc : Int) + dflt = (tgt : Int)) (kk : gG p l e R s m args below meth c D tys A nL Q ws k n tgt lv st) : gG p l e R s m args below meth c D tys A nL Q ws k n pc lv (.int x :: st) :=
  fun H locs ls hP hD hSs hl0 => lv_tableOut X.1.1 X.1.2.1 hdg h ht (kk H locs ls hP hD hSs hl0)
theorem g_tabIn (X : gC ZZ p s m args meth c D tys A cc Ts own nL ret) {dflt lo hi : Int} {offs : Array Int} {len : Nat} {x : Int32} {offq : Int} {tgt : Nat} (hdg : decode cc pc = .ok (.tableswitch dflt lo hi offs, len)) (h1 : ¬ x.toInt < lo) (h2 : ¬ hi < x.toInt) (ho : offs[(x.toInt - lo).toNat]? = some offq) (ht : (pc : Int) + offq = (tgt : Int)) (kk : gG p l e R s m args below meth c D tys A nL Q ws k n tgt lv st) : gG p l e R s m args below meth c D tys A nL Q ws k n pc lv (.int x :: st) :=
  fun H locs ls hP hD hSs hl0 => lv_tableIn X.1.1 X.1.2.1 hdg h1 h2 ho ht (kk H locs ls hP hD hSs hl0)
variable {AD : Nat → Nat} {E : St → Nat → va_E} {L : List Nat} {X9 : va_W} {σ σ' : St}
theorem g_get (X : gC ZZ p s m args meth c D tys A cc Ts own nL ret) {ref C : String} {T : u_T} {N ci index : Nat} {j : Nat} {fs : List Value} (hj : j ∈ L) (he : E σ j = .inr (ci, fs)) (hin : ∀ w ∈ u_ws C T N, w ∈ Ts) (hcq : vwCl[ci]? = some (C, T, N)) (k9 : Nat) (hk : k9 < N) (hlink : Cond.fieldLink own index ref (T k9).2.1 (T k9).2.2.1 ∈ Ts) (hsame : ∀ x, s.fieldFound? (T k9).1 (T k9).2.1 (T k9).2.2.1 = some x → s.fieldFound? ref (T k9).2.1 (T k9).2.2.1 = some x) {v : Value} (hv : fs[k9]? = some v) (hdg : decode cc pc = .ok (.getfield index, 3)) (kk : gG p l e R s m args below meth c D tys A nL Q (wF AD E L X9 σ) k n (pc + 3) lv (v :: st)) : gG p l e R s m args below meth c D tys A nL Q (wF AD E L X9 σ) k n pc lv (.ref (AD j) :: st) := by
  intro H locs ls hP hD hSs hl0
  obtain ⟨q, hq⟩ := wF_get (A := AD) (E := E) (X := X9) (σ := σ) hj
  rw [he] at hq
  exact va_get X.1.1 X.1.2.1 X.1.2.2.2.2 hin X.1.2.2.2.1 X.2.1 hP q hq hcq k9 hk (X.1.2.2.2.2 _ hlink) hsame hv hdg (kk H locs ls hP hD hSs hl0)
theorem g_put (X : gC ZZ p s m args meth c D tys A cc Ts own nL ret) {ref C : String} {T : u_T} {N ci index : Nat} {j : Nat} {fs : List Value} (hj : j ∈ L) (he : E σ j = .inr (ci, fs)) (hin : ∀ w ∈ u_ws C T N, w ∈ Ts) (hcq : vwCl[ci]? = some (C, T, N)) (ty0 : Nat → FieldType) (hty : ∀ k, k < N → parseFieldDescriptor (T k).2.2.1 = some (ty0 k)) (hnm : ∀ a, a < N → ∀ b, b < N → a ≠ b → (T a).2.1 ≠ (T b).2.1) (k9 : Nat) (hk : k9 < N) (hlink : Cond.fieldLink own index ref (T k9).2.1 (T k9).2.2.1 ∈ Ts) (hsame : ∀ x, s.fieldFound? (T k9).1 (T k9).2.1 (T k9).2.2.1 = some x → s.fieldFound? ref (T k9).2.1 (T k9).2.2.1 = some x) (hfin : (T k9).2.2.2 = false) {ty : FieldType} {v : Value} (hd : parseFieldDescriptor (T k9).2.2.1 = some ty) (hn : narrow ty v = v) (hfit : fits ty v = true) (hlen : k9 < fs.length) (hE : ∀ i ∈ L, E σ' i = if i = j then .inr (ci, fs.set k9 v) else E σ i) (hdg : decode cc pc = .ok (.putfield index, 3)) (kk : gG p l e R s m args below meth c D tys A nL Q (wF AD E L X9 σ') k n (pc + 3) lv st) : gG p l e R s m args below meth c D tys A nL Q (wF AD E L X9 σ) k n pc lv (v :: .ref (AD j) :: st) := by
  intro H locs ls hP hD hSs hl0
  obtain ⟨q, hq, hset⟩ := wF_at hD hj
  rw [he] at hq
  refine va_put X.1.1 X.1.2.1 X.1.2.2.2.2 hin ty0 hty hnm X.1.2.2.2.1 X.2.1 hP hD hSs q hq hcq k9 hk (X.1.2.2.2.2 _ hlink) hsame hfin hd hn hfit hlen hdg (fun H1 locs1 hP1 hD1 hS1 => ?_)
  rw [hset _ σ' hE] at hP1 hD1
  exact kk H1 locs1 ls hP1 hD1 hS1 hl0
theorem g_iald (X : gC ZZ p s m args meth c D tys A cc Ts own nL ret) {j : Nat} {cA : ClassId} {n9 : Nat} {f : Nat → Int32} (hj : j ∈ L) (he : E σ j = .inl (cA, n9, .inl f)) (t0 : Nat) (ht : tys[t0]? = some (cA, .int)) {i : Int32} (hin : ¬ (i < 0 ∨ n9 ≤ i.toNatClampNeg)) (hdg : decode cc pc = .ok (.iaload, 1)) (kk : gG p l e R s m args below meth c D tys A nL Q (wF AD E L X9 σ) k n (pc + 1) lv (.int (f i.toNatClampNeg) :: st)) : gG p l e R s m args below meth c D tys A nL Q (wF AD E L X9 σ) k n pc lv (.int i :: .ref (AD j) :: st) := by
  intro H locs ls hP hD hSs hl0
  obtain ⟨q, hq⟩ := wF_get (A := AD) (E := E) (X := X9) (σ := σ) hj
  rw [he] at hq
  exact va_iald X.1.1 X.1.2.1 X.2.1 hP q t0 hq ht hin hdg (kk H locs ls hP hD hSs hl0)
theorem g_bald (X : gC ZZ p s m args meth c D tys A cc Ts own nL ret) {j : Nat} {cA : ClassId} {n9 : Nat} {f : Nat → Int32} (hj : j ∈ L) (he : E σ j = .inl (cA, n9, .inl f)) (t0 : Nat) (ht : tys[t0]? = some (cA, .byte)) {i : Int32} (hin : ¬ (i < 0 ∨ n9 ≤ i.toNatClampNeg)) (hdg : decode cc pc = .ok (.baload, 1)) (kk : gG p l e R s m args below meth c D tys A nL Q (wF AD E L X9 σ) k n (pc + 1) lv (.int (f i.toNatClampNeg) :: st)) : gG p l e R s m args below meth c D tys A nL Q (wF AD E L X9 σ) k n pc lv (.int i :: .ref (AD j) :: st) := by
  intro H locs ls hP hD hSs hl0
  obtain ⟨q, hq⟩ := wF_get (A := AD) (E := E) (X := X9) (σ := σ) hj
  rw [he] at hq
  exact va_bald X.1.1 X.1.2.1 X.2.1 hP q t0 hq ht hin hdg (kk H locs ls hP hD hSs hl0)
theorem g_zald (X : gC ZZ p s m args meth c D tys A cc Ts own nL ret) {j : Nat} {cA : ClassId} {n9 : Nat} {f : Nat → Int32} (hj : j ∈ L) (he : E σ j = .inl (cA, n9, .inl f)) (t0 : Nat) (ht : tys[t0]? = some (cA, .boolean)) {i : Int32} (hin : ¬ (i < 0 ∨ n9 ≤ i.toNatClampNeg)) (hdg : decode cc pc = .ok (.baload, 1)) (kk : gG p l e R s m args below meth c D tys A nL Q (wF AD E L X9 σ) k n (pc + 1) lv (.int (f i.toNatClampNeg) :: st)) : gG p l e R s m args below meth c D tys A nL Q (wF AD E L X9 σ) k n pc lv (.int i :: .ref (AD j) :: st) := by
  intro H locs ls hP hD hSs hl0
  obtain ⟨q, hq⟩ := wF_get (A := AD) (E := E) (X := X9) (σ := σ) hj
  rw [he] at hq
  exact va_zald X.1.1 X.1.2.1 X.2.1 hP q t0 hq ht hin hdg (kk H locs ls hP hD hSs hl0)
theorem g_iast (X : gC ZZ p s m args meth c D tys A cc Ts own nL ret) {j : Nat} {cA : ClassId} {n9 : Nat} {f : Nat → Int32} (hj : j ∈ L) (he : E σ j = .inl (cA, n9, .inl f)) (t0 : Nat) (ht : tys[t0]? = some (cA, .int)) {i x : Int32} (hin : ¬ (i < 0 ∨ n9 ≤ i.toNatClampNeg)) (hE : ∀ i9 ∈ L, E σ' i9 = if i9 = j then .inl (cA, n9, .inl (upd f i.toNatClampNeg x)) else E σ i9) (hdg : decode cc pc = .ok (.iastore, 1)) (kk : gG p l e R s m args below meth c D tys A nL Q (wF AD E L X9 σ') k n (pc + 1) lv st) : gG p l e R s m args below meth c D tys A nL Q (wF AD E L X9 σ) k n pc lv (.int x :: .int i :: .ref (AD j) :: st) := by
  intro H locs ls hP hD hSs hl0
  obtain ⟨q, hq, hset⟩ := wF_at hD hj
  rw [he] at hq
  refine va_iast X.1.1 X.1.2.1 X.2.1 hP hD hSs q t0 hq ht hin hdg (fun H1 locs1 hP1 hD1 hS1 => ?_)
  rw [hset _ σ' hE] at hP1 hD1
  exact kk H1 locs1 ls hP1 hD1 hS1 hl0
theorem g_bast (X : gC ZZ p s m args meth c D tys A cc Ts own nL ret) {j : Nat} {cA : ClassId} {n9 : Nat} {f : Nat → Int32} (hj : j ∈ L) (he : E σ j = .inl (cA, n9, .inl f)) (t0 : Nat) (ht : tys[t0]? = some (cA, .byte)) {i x : Int32} (hin : ¬ (i < 0 ∨ n9 ≤ i.toNatClampNeg)) (hE : ∀ i9 ∈ L, E σ' i9 = if i9 = j then .inl (cA, n9, .inl (upd f i.toNatClampNeg (vp_nar .byte x))) else E σ i9) (hdg : decode cc pc = .ok (.bastore, 1)) (kk : gG p l e R s m args below meth c D tys A nL Q (wF AD E L X9 σ') k n (pc + 1) lv st) : gG p l e R s m args below meth c D tys A nL Q (wF AD E L X9 σ) k n pc lv (.int x :: .int i :: .ref (AD j) :: st) := by
  intro H locs ls hP hD hSs hl0
  obtain ⟨q, hq, hset⟩ := wF_at hD hj
  rw [he] at hq
  refine va_bast X.1.1 X.1.2.1 X.2.1 hP hD hSs q t0 hq ht hin hdg (fun H1 locs1 hP1 hD1 hS1 => ?_)
  rw [hset _ σ' hE] at hP1 hD1
  exact kk H1 locs1 ls hP1 hD1 hS1 hl0
theorem g_zast (X : gC ZZ p s m args meth c D tys A cc Ts own nL ret) {j : Nat} {cA : ClassId} {n9 : Nat} {f : Nat → Int32} (hj : j ∈ L) (he : E σ j = .inl (cA, n9, .inl f)) (t0 : Nat) (ht : tys[t0]? = some (cA, .boolean)) {i x : Int32} (hin : ¬ (i < 0 ∨ n9 ≤ i.toNatClampNeg)) (hE : ∀ i9 ∈ L, E σ' i9 = if i9 = j then .inl (cA, n9, .inl (upd f i.toNatClampNeg (vp_nar .boolean x))) else E σ i9) (hdg : decode cc pc = .ok (.bastore, 1)) (kk : gG p l e R s m args below meth c D tys A nL Q (wF AD E L X9 σ') k n (pc + 1) lv st) : gG p l e R s m args below meth c D tys A nL Q (wF AD E L X9 σ) k n pc lv (.int x :: .int i :: .ref (AD j) :: st) := by
  intro H locs ls hP hD hSs hl0
  obtain ⟨q, hq, hset⟩ := wF_at hD hj
  rw [he] at hq
  refine va_zast X.1.1 X.1.2.1 X.2.1 hP hD hSs q t0 hq ht hin hdg (fun H1 locs1 hP1 hD1 hS1 => ?_)
  rw [hset _ σ' hE] at hP1 hD1
  exact kk H1 locs1 ls hP1 hD1 hS1 hl0
theorem g_alen (X : gC ZZ p s m args meth c D tys A cc Ts own nL ret) {j : Nat} {cA : ClassId} {x : vp_A} {ty : FieldType} (hj : j ∈ L) (he : E σ j = .inl (cA, x)) (t0 : Nat) (ht : tys[t0]? = some (cA, ty)) {v : Int32} (hv : Int32.ofNat x.1 = v) (hdg : decode cc pc = .ok (.arraylength, 1)) (kk : gG p l e R s m args below meth c D tys A nL Q (wF AD E L X9 σ) k n (pc + 1) lv (.int v :: st)) : gG p l e R s m args below meth c D tys A nL Q (wF AD E L X9 σ) k n pc lv (.ref (AD j) :: st) := by
  intro H locs ls hP hD hSs hl0
  obtain ⟨q, hq⟩ := wF_get (A := AD) (E := E) (X := X9) (σ := σ) hj
  rw [he] at hq
  exact va_alen X.1.1 X.1.2.1 X.2.1 hP q t0 hq ht hv hdg (kk H locs ls hP hD hSs hl0)
theorem g_aald (X : gC ZZ p s m args meth c D tys A cc Ts own nL ret) {j : Nat} {cA : ClassId} {C : String} {n9 : Nat} {f : Nat → Option Nat} (hj : j ∈ L) (he : E σ j = .inl (cA, n9, .inr (.inr (.inr (.inr f))))) (t0 : Nat) (ht : tys[t0]? = some (cA, .object C)) {i : Int32} (hin : ¬ (i < 0 ∨ n9 ≤ i.toNatClampNeg)) {v : Value} (hv : va_rf (f i.toNatClampNeg) = v) (hdg : decode cc pc = .ok (.aaload, 1)) (kk : gG p l e R s m args below meth c D tys A nL Q (wF AD E L X9 σ) k n (pc + 1) lv (v :: st)) : gG p l e R s m args below meth c D tys A nL Q (wF AD E L X9 σ) k n pc lv (.int i :: .ref (AD j) :: st) := by
  intro H locs ls hP hD hSs hl0
  obtain ⟨q, hq⟩ := wF_get (A := AD) (E := E) (X := X9) (σ := σ) hj
  rw [he] at hq
  subst hv
  exact va_aldq X.1.1 X.1.2.1 X.2.1 hP q t0 hq ht hin hdg (kk H locs ls hP hD hSs hl0)
theorem g_copy (X : gC ZZ p s m args meth c D tys A cc Ts own nL ret) {index : Nat} (hlink : Cond.methodLink own index arraycopyName ∈ Ts) (hnat : Cond.native arraycopyName ∈ Ts) (hstat : Cond.static arraycopyName ∈ Ts) (hini : Cond.initialized "java/lang/System" ∈ Ts) {j0 j1 : Nat} {c0 c1 : ClassId} {n0 n1 : Nat} {f g : Nat → Int32} (hj0 : j0 ∈ L) (hj1 : j1 ∈ L) (he0 : E σ j0 = .inl (c0, n0, .inl f)) (he1 : E σ j1 = .inl (c1, n1, .inl g)) (t0 t1 : Nat) (ht0 : tys[t0]? = some (c0, .int)) (ht1 : tys[t1]? = some (c1, .int)) {sp dp n9 : Int32} (h1 : ¬ sp < 0) (h2 : ¬ dp < 0) (h3 : ¬ n9 < 0) (h4 : sp.toNatClampNeg + n9.toNatClampNeg ≤ n0) (h5 : dp.toNatClampNeg + n9.toNatClampNeg ≤ n1) (hframes : 1 ≤ R.frames) (hlocals : (st.map fun v => v.category).sum + (nativeFrameWords "java/lang/System" "arraycopy" 5 + 11) ≤ R.locals) (hE : ∀ i9 ∈ L, E σ' i9 = if i9 = j1 then .inl (c1, n1, .inl (va_cpy f g sp.toNatClampNeg dp.toNatClampNeg n9.toNatClampNeg)) else E σ i9) (hdg : decode cc pc = .ok (.invokestatic index, 3)) (kk : gG p l e R s m args below meth c D tys A nL Q (wF AD E L X9 σ') k n (pc + 3) lv st) : gG p l e R s m args below meth c D tys A nL Q (wF AD E L X9 σ) k n pc lv (.int n9 :: .int dp :: .ref (AD j1) :: .int sp :: .ref (AD j0) :: st) := by
  intro H locs ls hP hD hSs hl0
  obtain ⟨q0, hq0⟩ := wF_get (A := AD) (E := E) (X := X9) (σ := σ) hj0
  obtain ⟨q1, hq1, hset⟩ := wF_at hD hj1
  rw [he0] at hq0
  rw [he1] at hq1
  refine va_copyi X.1.1 X.1.2.1 (X.1.2.2.1.trans hl0.1.symm) X.1.2.2.2.1 (X.1.2.2.2.2 _ hlink) (X.1.2.2.2.2 _ hnat) (X.1.2.2.2.2 _ hstat) (X.1.2.2.2.2 _ hini) X.2.1 hP hD hSs q0 q1 t0 t1 hq0 hq1 ht0 ht1 rfl h1 h2 h3 h4 h5 (fun i _ => rfl) hframes hlocals hdg (fun H1 locs1 hP1 hD1 hS1 => ?_)
  rw [hset _ σ' hE] at hP1 hD1
  exact kk H1 locs1 ls hP1 hD1 hS1 hl0
end GG
