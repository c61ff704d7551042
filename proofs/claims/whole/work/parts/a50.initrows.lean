/-! constructors: their contracts and rows, over plain worlds -/
def ZI (aK aO aS aV aT : Nat → Nat) (A : Nat → Prop) (U : State) (H : Heap) : Prop := ZL aK aO aS aV aT A U H ∧ va_AO "Cardcabinet$Row" U ∧ va_AO "Cardcabinet$Run" U
theorem ZI_ok (aK aO aS aV aT : Nat → Nat) : gZ (ZI aK aO aS aV aT) := by
  obtain ⟨z1, z2, z3, z4⟩ := ZL_ok aK aO aS aV aT
  exact ⟨fun A U H H1 h hq => ⟨z1 A U H H1 h.1 hq, h.2⟩, fun A B U H h hAB => ⟨z2 A B U H h.1 hAB, h.2⟩, fun A s U H hW h => ⟨z3 A s U H hW h.1, h.2.1.moved hW.alike, h.2.2.moved hW.alike⟩, fun A u U H hv h => ⟨z4 A u U H hv h.1, h.2.1.moved (by rw [hv]; exact Vm.Alike.refl _), h.2.2.moved (by rw [hv]; exact Vm.Alike.refl _)⟩⟩
def cV (ZZ : (Nat → Prop) → State → Heap → Prop) (D : va_G) (tys : List (ClassId × FieldType)) (l : Launch) (y : MethodName) (ws : List Cond) (rm : Room) (W0 : va_W) (av : List Value) {S : Type} (post : S → Prop) (Wf : S → va_W) (mcq msq : Nat) : Prop := ∀ sz : Nat, Met l y ws rm (va_Pc av (gPre ZZ D tys W0 sz)) (va_Qv post (gAt D tys Wf (va_A W0 sz)) (va_A W0 sz)) mcq msq (va_A W0 sz)
theorem cV_of {ZZ : (Nat → Prop) → State → Heap → Prop} {D : va_G} {tys : List (ClassId × FieldType)} {l : Launch} {y : MethodName} {ws ws' : List Cond} {rm : Room} {W0 : va_W} {S : Type} {post : S → Prop} {Wf : S → va_W} {av : List Value} {cc : ByteArray} {maxL : Nat} {mcq msq : Nat} (hy : plainName y.cls = true) (hw : ws = Cond.code y cc maxL none :: ws') (hlen : (lg_sl av).length ≤ maxL)
    (body : ∀ (p : Program) (e : Env) (s : State) (m : MethodId) (args : Array Value) (below : List Frame) (meth : Method) (c : Code) (A : Nat → Prop), gC ZZ p s m args meth c D tys A cc ws y.cls maxL none → meth.name = y.name → gG p l e rm s m args below meth c D tys A maxL (MQ below (va_Qv post (gAt D tys Wf A) A) args s mcq msq A) W0 0 0 0 (lv_args 0 av) []) : cV ZZ D tys l y ws rm W0 av post Wf mcq msq := by
  intro sz
  refine Met.ofW (cc := cc) (maxL := maxL) (ret := none) hy hw ?_
  intro p e s m args below meth c s₁ B hml hv
  have hsz : s.heap.size = sz := hv.2.1
  subst hsz
  exact gBody (Wf := fun _ : Unit => W0) (σ := ()) hw hlen B hml hv rfl (fun X => body p e s m args below meth c _ X (name_of_methodNamed B.named B.method).1)
theorem vaRA_uniq {U : State} {c1 c2 : ClassId} {ty : FieldType} (h1 : va_RA U c1 ty) (h2 : va_RA U c2 ty) : c1 = c2 := by
  cases ty with
  | object C =>
    obtain ⟨_, _, _, _, _, a⟩ := h1
    obtain ⟨_, _, _, _, _, b⟩ := h2
    exact Option.some.inj (a.symm.trans b)
  | _ => exact Option.some.inj (Eq.trans (Eq.symm h1) h2)
theorem vaK_uniq {D : va_G} {cl : List vw_C} {tys : List (ClassId × FieldType)} {s : State} {cA c0 : ClassId} {ty : FieldType} (hK : va_K D cl (tys ++ [(cA, ty)]) s) {t0 : Nat} (ht : tys[t0]? = some (c0, ty)) : cA = c0 := by
  have hl := (List.getElem?_eq_some_iff.mp ht).1
  exact vaRA_uniq (hK.2 tys.length (cA, ty) (by rw [List.getElem?_append_right (Nat.le_refl _), Nat.sub_self]; rfl)).2 (hK.2 t0 (c0, ty) (by rw [List.getElem?_append_left hl]; exact ht)).2
theorem vaNd_of : ∀ {l : List Nat}, l.Nodup → va_nd l = true
  | [], _ => rfl
  | a :: l, h => by
    obtain ⟨h1, h2⟩ := List.nodup_cons.mp h
    unfold va_nd
    rw [vaNd_of h2, decide_eq_true h1]; rfl
theorem join_last {A0 : Nat → Prop} {D : va_G} {cl : List vw_C} {ws0 w1 : va_W} {x : Nat × va_E} {H H1 : Heap} (hP : va_P D cl (ws0 ++ [x]) H) (hD : va_D A0 (ws0 ++ [x])) (hk : ∀ q : Nat, q < H.size → ¬ va_A [x] H.size q → H1[q]? = H[q]?) (hF : ∀ q, va_A [x] H.size q → A0 q) (hP1 : va_P D cl w1 H1) (hD1 : va_D (va_A [x] H.size) w1) : va_P D cl (ws0 ++ w1) H1 ∧ va_D A0 (ws0 ++ w1) := by
  refine va_join hP hD [ws0.length] (List.range ws0.length) ?_ ?_ (vaNd_of List.nodup_range) ?_ hk hF hP1 hD1
  · show [(ws0 ++ [x])[ws0.length]?] = [some x]
    rw [List.getElem?_append_right (Nat.le_refl _), Nat.sub_self]; rfl
  · apply List.ext_getElem?
    intro i
    rw [List.getElem?_map, List.getElem?_map]
    by_cases hi : i < ws0.length
    · rw [List.getElem?_range hi, Option.map_some, List.getElem?_append_left hi, List.getElem?_eq_getElem hi]; rfl
    · rw [List.getElem?_eq_none (by rw [List.length_range]; omega), List.getElem?_eq_none (by omega)]; rfl
  · intro i hi hc
    have h1 := List.mem_range.mp hi
    have h2 := List.mem_singleton.mp hc
    omega
theorem arrV_ext {cA : ClassId} {N : Nat} {f g : Nat → Value} (h : ∀ i, i < N → f i = g i) : arrV cA N f = arrV cA N g := by
  unfold arrV
  congr 1
  exact congrArg Array.ofFn (funext fun i => h i.val i.isLt)
section IR
variable {p : Program} {l : Launch} {e : Env} {R : Room} {s : State} {m : MethodId} {args : Array Value} {below : List Frame} {meth : Method} {c : Code} {D : va_G} {tys : List (ClassId × FieldType)} {A : Nat → Prop} {nL : Nat} {Q : State → Prop} {cc : ByteArray} {Ts : List Cond} {own : String} {ret : Option FieldType} {ZZ : (Nat → Prop) → State → Heap → Prop}
variable {k n pc : Nat} {lv : List (Nat × Value)} {st st0 : List Value} {ws ws0 ws9 : va_W} {aK aO aS aV aT : Nat → Nat}
variable {y2 : MethodName} {ws2 : List Cond} {rm2 : Room} {bytes : ByteArray} {maxL2 index nA : Nat} {As : List Value} {mcq msq : Nat}
theorem gC_ZL (X : gC (ZI aK aO aS aV aT) p s m args meth c D tys A cc Ts own nL ret) : gC (ZL aK aO aS aV aT) p s m args meth c D tys A cc Ts own nL ret := ⟨X.1, X.2.1, X.2.2.1, X.2.2.2.1.1, X.2.2.2.2⟩
theorem gC_ZC (X : gC (ZI aK aO aS aV aT) p s m args meth c D tys A cc Ts own nL ret) : gC (ZC aK aO aS aV aT) p s m args meth c D tys A cc Ts own nL ret := ⟨X.1, X.2.1, X.2.2.1, X.2.2.2.1.1.1, X.2.2.2.2⟩
theorem g_weq (hw : ws = ws9) (kk : gG p l e R s m args below meth c D tys A nL Q ws9 k n pc lv st) : gG p l e R s m args below meth c D tys A nL Q ws k n pc lv st := by
  subst hw; exact kk
theorem g_ceq (q0 : Nat) {q : Nat} {e1 e2 : va_E} (ha : ws[q0]? = some (q, e1)) (he : ∀ H : Heap, va_at D vwCl (q, e1) H → va_at D vwCl (q, e2) H) (hw : ws.set q0 (q, e2) = ws9) (kk : gG p l e R s m args below meth c D tys A nL Q ws9 k n pc lv st) : gG p l e R s m args below meth c D tys A nL Q ws k n pc lv st := by
  subst hw
  intro H locs ls hP hD hSs hl0
  have hq0 := (List.getElem?_eq_some_iff.mp ha).1
  refine kk H locs ls (fun i x hx => ?_) ⟨fun i j a b hi hj hab => ?_, fun i x hx => ?_⟩ hSs hl0
  · by_cases h : i = q0
    · subst h
      rw [List.getElem?_set_self hq0] at hx
      cases hx
      exact he H (hP _ _ ha)
    · rw [List.getElem?_set_ne (fun z => h z.symm)] at hx
      exact hP i x hx
  · have key : ∀ (i : Nat) (x : Nat × va_E), (ws.set q0 (q, e2))[i]? = some x → ∃ y, ws[i]? = some y ∧ y.1 = x.1 := fun i x hx => by
      by_cases h : i = q0
      · subst h
        rw [List.getElem?_set_self hq0] at hx
        cases hx
        exact ⟨_, ha, rfl⟩
      · rw [List.getElem?_set_ne (fun z => h z.symm)] at hx
        exact ⟨x, hx, rfl⟩
    obtain ⟨a', ha', ea⟩ := key i a hi
    obtain ⟨b', hb', eb⟩ := key j b hj
    exact hD.1 i j a' b' ha' hb' (by rw [ea, eb, hab])
  · by_cases h : i = q0
    · subst h
      rw [List.getElem?_set_self hq0] at hx
      cases hx
      exact hD.2 i (q, e1) ha
    · rw [List.getElem?_set_ne (fun z => h z.symm)] at hx
      exact hD.2 i x hx
theorem g_refsq (q0 : Nat) {q N : Nat} {cA : ClassId} {f g : Nat → Option Nat} (hfg : ∀ i, i < N → f i = g i) (ha : ws[q0]? = some (q, .inl (cA, N, .inr (.inr (.inr (.inr f)))))) (hw : ws.set q0 (q, .inl (cA, N, .inr (.inr (.inr (.inr g))))) = ws9) (kk : gG p l e R s m args below meth c D tys A nL Q ws9 k n pc lv st) : gG p l e R s m args below meth c D tys A nL Q ws k n pc lv st :=
  g_ceq q0 ha (fun H h => by
    have h1 : H[q]? = some (vp_cell cA (N, .inr (.inr (.inr (.inr f))))) := h
    show H[q]? = some (vp_cell cA (N, .inr (.inr (.inr (.inr g)))))
    rw [h1, vp_cell_q, vp_cell_q, arrV_ext (fun i hi => by rw [hfg i hi])]) hw kk
theorem g_objI (X : gC ZZ p s m args meth c D tys A cc Ts own nL ret) {q : Nat} (hlink : Cond.methodLink own index objectInit ∈ Ts) (hinst : Cond.instanceMethod objectInit ∈ Ts) (hcode : Cond.code objectInit ⟨#[0xb1]⟩ 1 none ∈ Ts) (hdg : decode cc pc = .ok (.invokespecial index, 3)) (hR : 1 ≤ R.frames) (hRl : (st.map fun v => v.category).sum + 12 ≤ R.locals) (kk : gG p l e R s m args below meth c D tys A nL Q ws k n (pc + 3) lv st) : gG p l e R s m args below meth c D tys A nL Q ws k n pc lv (.ref q :: st) := by
  intro H locs ls hP hD hSs hl0
  refine W.objInit X.1.1 X.1.2.1 X.1.2.2.2.1 (X.1.2.2.2.2 _ hlink) (X.1.2.2.2.2 _ hinst) (X.1.2.2.2.2 _ hcode) rfl (by rw [X.1.2.2.1]; exact hl0.1) rfl hdg hR ?_ ?_
  · have : (F0 m pc ls (.ref q :: st)).monitorRoom = 0 := rfl
    omega
  · exact kk H locs ls hP hD hSs hl0
theorem g_newa (X : gC ZZ p s m args meth c D tys A cc Ts own nL ret) {atype : ArrayType} {ty : FieldType} {nn : Int32} {N : Nat} {a0 : vp_A} {cA : ClassId} (harr : Cond.arrayClass (newarray.typeOf atype) ∈ Ts) (hty : newarray.typeOf atype = ty) (t0 : Nat) (ht : tys[t0]? = some (cA, ty)) (ha : ∀ cA : ClassId, vp_cell cA a0 = arrV cA N (fun _ => defaultValue ty)) (hn : ¬ nn < 0) (hN : nn.toNatClampNeg = N) (hbytes : N * componentBytes ty ≤ 536870912) (hcells : k + 1 ≤ R.cells) (hslots : n + N ≤ R.slots) (hdg : decode cc pc = .ok (.newarray atype, 2))
    (kk : ∀ q : Nat, gG p l e R s m args below meth c D tys A nL Q (ws ++ [(q, .inl (cA, a0))]) (k + 1) (n + N) (pc + 2) lv (.ref q :: st)) : gG p l e R s m args below meth c D tys A nL Q ws k n pc lv (.int nn :: st) := by
  intro H locs ls hP hD hSs hl0
  refine va_newa X.1.1 X.1.2.1 (X.1.2.2.2.2 _ harr) hty X.2.1 hP hD hSs X.2.2.1 ha hn hN hbytes hcells hslots hdg (fun q cB H1 hK1 hP1 hD1 hS1 => ?_)
  have e1 := vaK_uniq hK1 ht
  subst e1
  exact kk q H1 locs ls hP1 hD1 hS1 hl0
theorem g_newq (X : gC ZZ p s m args meth c D tys A cc Ts own nL ret) {C : String} {nn : Int32} {N : Nat} {cA : ClassId} (hlink : Cond.classLink own index C ∈ Ts) (hover : va_AO C s) (t0 : Nat) (ht : tys[t0]? = some (cA, .object C)) (hn : ¬ nn < 0) (hN : nn.toNatClampNeg = N) (hbytes : N * 4 ≤ 536870912) (hcells : k + 1 ≤ R.cells) (hslots : n + N ≤ R.slots) (hdg : decode cc pc = .ok (.anewarray index, 3))
    (kk : ∀ q : Nat, gG p l e R s m args below meth c D tys A nL Q (ws ++ [(q, .inl (cA, N, .inr (.inr (.inr (.inr (fun _ => none))))))]) (k + 1) (n + N) (pc + 3) lv (.ref q :: st)) : gG p l e R s m args below meth c D tys A nL Q ws k n pc lv (.int nn :: st) := by
  intro H locs ls hP hD hSs hl0
  refine va_newq X.1.1 X.1.2.1 X.1.2.2.2.1 (X.1.2.2.2.2 _ hlink) hover X.2.1 hP hD hSs X.2.2.1 hn hN hbytes hcells hslots hdg (fun q cB H1 hK1 hP1 hD1 hS1 => ?_)
  have e1 := vaK_uniq hK1 ht
  subst e1
  exact kk q H1 locs ls hP1 hD1 hS1 hl0
theorem g_new (X : gC ZZ p s m args meth c D tys A cc Ts own nL ret) {C : String} {T : u_T} {N ci : Nat} {fs : List Value} (hin : ∀ w ∈ u_ws C T N, w ∈ Ts) (ty : Nat → FieldType) (hty : ∀ k, k < N → parseFieldDescriptor (T k).2.2.1 = some (ty k)) (hcl : Cond.classLink own index C ∈ Ts) (hinst : Cond.instantiable C N ∈ Ts) (hini : Cond.initialized C ∈ Ts) (hc : vwCl[ci]? = some (C, T, N)) (hfs : ∀ j, j < N → defaultValue (ty j) = vp_V fs j) (hcells : k + 1 ≤ R.cells) (hslots : n + N ≤ R.slots) (hdg : decode cc pc = .ok (.new index, 3))
    (kk : ∀ q : Nat, gG p l e R s m args below meth c D tys A nL Q (ws ++ [(q, .inr (ci, fs))]) (k + 1) (n + N) (pc + 3) lv (.ref q :: st)) : gG p l e R s m args below meth c D tys A nL Q ws k n pc lv st := by
  intro H locs ls hP hD hSs hl0
  exact va_new X.1.1 X.1.2.1 X.1.2.2.2.2 hin ty hty X.1.2.2.2.1 (X.1.2.2.2.2 _ hcl) (X.1.2.2.2.2 _ hinst) (X.1.2.2.2.2 _ hini) X.2.1 hP hD hSs X.2.2.1 hc hfs hcells hslots hdg (fun q H1 hP1 hD1 hS1 => kk q H1 locs ls hP1 hD1 hS1 hl0)
theorem g_getK (X : gC ZZ p s m args meth c D tys A cc Ts own nL ret) (q0 : Nat) {q : Nat} {ref C : String} {T : u_T} {N ci : Nat} {fs : List Value} (ha : ws[q0]? = some (q, .inr (ci, fs))) (hin : ∀ w ∈ u_ws C T N, w ∈ Ts) (hcq : vwCl[ci]? = some (C, T, N)) (k9 : Nat) (hk : k9 < N) (hlink : Cond.fieldLink own index ref (T k9).2.1 (T k9).2.2.1 ∈ Ts) (hsame : ∀ x, s.fieldFound? (T k9).1 (T k9).2.1 (T k9).2.2.1 = some x → s.fieldFound? ref (T k9).2.1 (T k9).2.2.1 = some x) {v : Value} (hv : fs[k9]? = some v) (hdg : decode cc pc = .ok (.getfield index, 3)) (kk : gG p l e R s m args below meth c D tys A nL Q ws k n (pc + 3) lv (v :: st)) : gG p l e R s m args below meth c D tys A nL Q ws k n pc lv (.ref q :: st) := by
  intro H locs ls hP hD hSs hl0
  exact va_get X.1.1 X.1.2.1 X.1.2.2.2.2 hin X.1.2.2.2.1 X.2.1 hP q0 ha hcq k9 hk (X.1.2.2.2.2 _ hlink) hsame hv hdg (kk H locs ls hP hD hSs hl0)
theorem g_putK (X : gC ZZ p s m args meth c D tys A cc Ts own nL ret) (q0 : Nat) {q : Nat} {ref C : String} {T : u_T} {N ci : Nat} {fs : List Value} (ha : ws[q0]? = some (q, .inr (ci, fs))) (hin : ∀ w ∈ u_ws C T N, w ∈ Ts) (hcq : vwCl[ci]? = some (C, T, N)) (ty0 : Nat → FieldType) (hty : ∀ k, k < N → parseFieldDescriptor (T k).2.2.1 = some (ty0 k)) (hnm : ∀ a, a < N → ∀ b, b < N → a ≠ b → (T a).2.1 ≠ (T b).2.1) (k9 : Nat) (hk : k9 < N) (hlink : Cond.fieldLink own index ref (T k9).2.1 (T k9).2.2.1 ∈ Ts) (hsame : ∀ x, s.fieldFound? (T k9).1 (T k9).2.1 (T k9).2.2.1 = some x → s.fieldFound? ref (T k9).2.1 (T k9).2.2.1 = some x) (hfin : (T k9).2.2.2 = false) {ty : FieldType} {v : Value} (hd : parseFieldDescriptor (T k9).2.2.1 = some ty) (hn : narrow ty v = v) (hfit : fits ty v = true) (hlen : k9 < fs.length) (hdg : decode cc pc = .ok (.putfield index, 3)) (hw : ws.set q0 (q, .inr (ci, fs.set k9 v)) = ws9) (kk : gG p l e R s m args below meth c D tys A nL Q ws9 k n (pc + 3) lv st) : gG p l e R s m args below meth c D tys A nL Q ws k n pc lv (v :: .ref q :: st) := by
  subst hw
  intro H locs ls hP hD hSs hl0
  exact va_put X.1.1 X.1.2.1 X.1.2.2.2.2 hin ty0 hty hnm X.1.2.2.2.1 X.2.1 hP hD hSs q0 ha hcq k9 hk (X.1.2.2.2.2 _ hlink) hsame hfin hd hn hfit hlen hdg (fun H1 locs1 hP1 hD1 hS1 => kk H1 locs1 ls hP1 hD1 hS1 hl0)
theorem g_putFK (X : gC ZZ p s m args meth c D tys A cc Ts own nL ret) (q0 : Nat) {q : Nat} {ref C : String} {T : u_T} {N ci : Nat} {fs : List Value} (ha : ws[q0]? = some (q, .inr (ci, fs))) (hin : ∀ w ∈ u_ws C T N, w ∈ Ts) (hcq : vwCl[ci]? = some (C, T, N)) (ty0 : Nat → FieldType) (hty : ∀ k, k < N → parseFieldDescriptor (T k).2.2.1 = some (ty0 k)) (hnm : ∀ a, a < N → ∀ b, b < N → a ≠ b → (T a).2.1 ≠ (T b).2.1) (k9 : Nat) (hk : k9 < N) (hlink : Cond.fieldLink own index ref (T k9).2.1 (T k9).2.2.1 ∈ Ts) (hsame : ∀ x, s.fieldFound? (T k9).1 (T k9).2.1 (T k9).2.2.1 = some x → s.fieldFound? ref (T k9).2.1 (T k9).2.2.1 = some x) (hfin : (T k9).2.2.2 = true) (hin2 : meth.name = "<init>") (hdecl : (T k9).1 = own) {ty : FieldType} {v : Value} (hd : parseFieldDescriptor (T k9).2.2.1 = some ty) (hn : narrow ty v = v) (hfit : fits ty v = true) (hlen : k9 < fs.length) (hdg : decode cc pc = .ok (.putfield index, 3)) (hw : ws.set q0 (q, .inr (ci, fs.set k9 v)) = ws9) (kk : gG p l e R s m args below meth c D tys A nL Q ws9 k n (pc + 3) lv st) : gG p l e R s m args below meth c D tys A nL Q ws k n pc lv (v :: .ref q :: st) := by
  subst hw
  intro H locs ls hP hD hSs hl0
  exact va_putF X.1.1 X.1.2.1 X.1.2.2.2.2 hin ty0 hty hnm X.1.2.2.2.1 X.2.1 hP hD hSs q0 ha hcq k9 hk (X.1.2.2.2.2 _ hlink) hsame hfin hin2 hdecl hd hn hfit hlen hdg (fun H1 locs1 hP1 hD1 hS1 => kk H1 locs1 ls hP1 hD1 hS1 hl0)
theorem g_astqK (X : gC ZZ p s m args meth c D tys A cc Ts own nL ret) (q0 t0 qk ci : Nat) {q v N : Nat} {cA : ClassId} {r : vw_C} {vs : List Value} {f : Nat → Option Nat} (ha : ws[q0]? = some (q, .inl (cA, N, .inr (.inr (.inr (.inr f)))))) (ht : tys[t0]? = some (cA, .object r.1)) (hv : ws[qk]? = some (v, .inr (ci, vs))) (hc : vwCl[ci]? = some r) {i : Int32} (hin : vp_in i N) (hdg : decode cc pc = .ok (.aastore, 1)) (hw : ws.set q0 (q, .inl (cA, N, .inr (.inr (.inr (.inr (va_up f i.toNatClampNeg (some v))))))) = ws9) (kk : gG p l e R s m args below meth c D tys A nL Q ws9 k n (pc + 1) lv st) : gG p l e R s m args below meth c D tys A nL Q ws k n pc lv (.ref v :: .int i :: .ref q :: st) := by
  subst hw
  intro H locs ls hP hD hSs hl0
  exact va_astq X.1.1 X.1.2.1 X.2.1 hP hD hSs q0 t0 qk ci ha ht hv hc hin hdg (fun H1 locs1 hP1 hD1 hS1 => kk H1 locs1 ls hP1 hD1 hS1 hl0)
theorem g_iastK (X : gC ZZ p s m args meth c D tys A cc Ts own nL ret) (q0 t0 : Nat) {q N : Nat} {cA : ClassId} {f : Nat → Int32} (ha : ws[q0]? = some (q, .inl (cA, N, .inl f))) (ht : tys[t0]? = some (cA, .int)) {i x : Int32} (hin : vp_in i N) (hdg : decode cc pc = .ok (.iastore, 1)) (hw : ws.set q0 (q, .inl (cA, N, .inl (upd f i.toNatClampNeg x))) = ws9) (kk : gG p l e R s m args below meth c D tys A nL Q ws9 k n (pc + 1) lv st) : gG p l e R s m args below meth c D tys A nL Q ws k n pc lv (.int x :: .int i :: .ref q :: st) := by
  subst hw
  intro H locs ls hP hD hSs hl0
  exact va_iast X.1.1 X.1.2.1 X.2.1 hP hD hSs q0 t0 ha ht hin hdg (fun H1 locs1 hP1 hD1 hS1 => kk H1 locs1 ls hP1 hD1 hS1 hl0)
theorem g_callC (X : gC ZZ p s m args meth c D tys A cc Ts own nL ret) (hzz : gZ ZZ) {S : Type} {post : S → Prop} {Wf : S → va_W} {q : Nat} {e9 : va_E} (hM : cV ZZ D tys l y2 ws2 rm2 [(q, e9)] (.ref q :: As) post Wf mcq msq) (cw : CallB R s args own index y2 bytes maxL2 none ws2 rm2 mcq msq nA ∧ y2.name = "<init>" ∧ (Cond.instanceMethod y2).before args s = true) (hst : st0 = As.reverse ++ .ref q :: st) (hn : As.length = nA) (hcat : (st.map fun v => v.category).sum ≤ 8) (hkn : k + mcq ≤ R.cells ∧ n + msq ≤ R.slots) (hdg : decode cc pc = .ok (.invokespecial index, 3)) (kk : ∀ u : S, post u → gG p l e R s m args below meth c D tys A nL Q (ws0 ++ Wf u) (k + mcq) (n + msq) (pc + 3) lv st) : gG p l e R s m args below meth c D tys A nL Q (ws0 ++ [(q, e9)]) k n pc lv st0 := by
  subst hst
  intro H locs ls hP hD hSs hl0
  have hPx : va_P D vwCl [(q, e9)] H := vaP_mem hP (fun x hx => List.mem_append_right _ hx)
  have hDx : va_D A [(q, e9)] := vaD_iff.mpr ⟨List.pairwise_singleton _ _, fun x hx => (vaD_iff.mp hD).2 x (List.mem_append_right _ hx)⟩
  have hF := (gPre_of (av := []) hzz X.2.1 X.2.2.1 X.2.2.2.1 hPx hDx hSs).1
  refine va_callv (va_runI X.1 (hM H.size) cw ⟨gPre_blind hzz, (gPre_of hzz X.2.1 X.2.2.1 X.2.2.2.1 hPx hDx hSs).2⟩ rfl hn hl0.1 rfl (lv_room hcat) hdg hkn) hSs (fun q _ h => hF q h) hF (fun u t H1 locs1 ht hvm hw hBb hz1 hk1 hS1 => ?_)
  obtain ⟨hP1, -, hD1⟩ := hBb
  rw [ht] at hP1
  obtain ⟨hP2, hD2⟩ := join_last hP hD hk1 hF hP1 hD1
  exact kk u hw H1 locs1 ls hP2 hD2 hS1 hl0
theorem g_callCN (X : gC ZZ p s m args meth c D tys A cc Ts own nL ret) (hzz : gZ ZZ) {host : String} {S : Type} {post : S → Prop} {Wf : S → va_W} {q : Nat} {e9 : va_E} (hM : cV ZZ D tys l y2 ws2 rm2 [(q, e9)] (.ref q :: As) post Wf mcq msq) (cw : va_CN R s args own index y2 host bytes maxL2 none ws2 rm2 mcq msq nA ∧ y2.name = "<init>" ∧ (Cond.instanceMethod y2).before args s = true) (hst : st0 = As.reverse ++ .ref q :: st) (hn : As.length = nA) (hcat : (st.map fun v => v.category).sum ≤ 8) (hkn : k + mcq ≤ R.cells ∧ n + msq ≤ R.slots) (hdg : decode cc pc = .ok (.invokespecial index, 3)) (kk : ∀ u : S, post u → gG p l e R s m args below meth c D tys A nL Q (ws0 ++ Wf u) (k + mcq) (n + msq) (pc + 3) lv st) : gG p l e R s m args below meth c D tys A nL Q (ws0 ++ [(q, e9)]) k n pc lv st0 := by
  subst hst
  intro H locs ls hP hD hSs hl0
  have hPx : va_P D vwCl [(q, e9)] H := vaP_mem hP (fun x hx => List.mem_append_right _ hx)
  have hDx : va_D A [(q, e9)] := vaD_iff.mpr ⟨List.pairwise_singleton _ _, fun x hx => (vaD_iff.mp hD).2 x (List.mem_append_right _ hx)⟩
  have hF := (gPre_of (av := []) hzz X.2.1 X.2.2.1 X.2.2.2.1 hPx hDx hSs).1
  refine va_callv (va_runIN X.1 (hM H.size) cw ⟨gPre_blind hzz, (gPre_of hzz X.2.1 X.2.2.1 X.2.2.2.1 hPx hDx hSs).2⟩ rfl hn hl0.1 rfl (lv_room hcat) hdg hkn) hSs (fun q _ h => hF q h) hF (fun u t H1 locs1 ht hvm hw hBb hz1 hk1 hS1 => ?_)
  obtain ⟨hP1, -, hD1⟩ := hBb
  rw [ht] at hP1
  obtain ⟨hP2, hD2⟩ := join_last hP hD hk1 hF hP1 hD1
  exact kk u hw H1 locs1 ls hP2 hD2 hS1 hl0
theorem g_pos (is : List Nat) (hn : va_nd is = true) (hs : is.map (fun i => ws[i]?) = ws9.map some) (kk : gG p l e R s m args below meth c D tys A nL Q ws9 k n pc lv st) : gG p l e R s m args below meth c D tys A nL Q ws k n pc lv st := by
  intro H locs ls hP hD hSs hl0
  refine kk H locs ls (hP.sub is ?_) (hD.sub is hn hs) hSs hl0
  have h1 : ∀ (l : List Nat) (r : va_W), l.map (fun i => ws[i]?) = r.map some → l.filterMap (fun i => ws[i]?) = r := by
    intro l
    induction l with
    | nil =>
      intro r h
      cases r with
      | nil => rfl
      | cons a r => exact nomatch h
    | cons i l ih =>
      intro r h
      cases r with
      | nil => exact nomatch h
      | cons a r =>
        rw [List.map_cons, List.map_cons] at h
        obtain ⟨h2, h3⟩ := List.cons.inj h
        rw [List.filterMap_cons, h2]
        exact congrArg _ (ih r h3)
  exact h1 is ws9 hs
end IR
