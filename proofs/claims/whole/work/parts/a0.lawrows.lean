/-! the law: what it rests on beside the class's ZC; calls that catch; its two arrays; worlds the other way round -/
def ZL (aK aO aS aV aT : Nat → Nat) (A : Nat → Prop) (U : State) (H : Heap) : Prop := ZC aK aO aS aV aT A U H ∧ ∀ E ∈ zX, ∀ nm ∈ zX, E ≠ nm → va_Nc E nm U
theorem ZL_ok (aK aO aS aV aT : Nat → Nat) : gZ (ZL aK aO aS aV aT) := by
  obtain ⟨z1, z2, z3, z4⟩ := ZC_ok aK aO aS aV aT
  exact ⟨fun A U H H1 h hq => ⟨z1 A U H H1 h.1 hq, h.2⟩, fun A B U H h hAB => ⟨z2 A B U H h.1 hAB, h.2⟩, fun A s U H hW h => ⟨z3 A s U H hW h.1, fun E hE nm hn hne => (h.2 E hE nm hn hne).moved hW.alike⟩, fun A u U H hv h => ⟨z4 A u U H hv h.1, fun E hE nm hn hne => (h.2 E hE nm hn hne).moved (by rw [hv]; exact Vm.Alike.refl _)⟩⟩
theorem Met_pre {l : Launch} {y : MethodName} {ws : List Cond} {rm : Room} {Pc Pc' : Array Value → State → Prop} {Qc : Array Value → State → Outcome → State → Prop} {mc ms : Nat} {free : Addr → Prop} (h : Met l y ws rm Pc Qc mc ms free) (hp : ∀ a s, Pc' a s → Pc a s) : Met l y ws rm Pc' Qc mc ms free :=
  fun p e ha hc hk s m args below hf happ hP hK => h p e ha hc hk s m args below hf happ (hp _ _ hP) hK
theorem vxMet_pre {l : Launch} {y : MethodName} {ws : List Cond} {rm : Room} {Pc Pc' : Array Value → State → Prop} {Qc : Array Value → State → Outcome → State → Prop} {XC : String → State → State → Prop} {mc ms : Nat} {free : Addr → Prop} (h : vx_Met l y ws rm Pc Qc XC mc ms free) (hp : ∀ a s, Pc' a s → Pc a s) : vx_Met l y ws rm Pc' Qc XC mc ms free :=
  fun p e ha hc hk s m args below hf happ hP hK => h p e ha hc hk s m args below hf happ (hp _ _ hP) hK
section UP
variable {aK aO aS aV aT : Nat → Nat} {D : va_G} {tys : List (ClassId × FieldType)} {l : Launch} {y : MethodName} {ws : List Cond} {rm : Room} {S : Type} {Wf : S → va_W} {av : List Value} {σ σ' : S} {mcq msq : Nat}
theorem gPre_up {W9 : va_W} {sz : Nat} {a : Array Value} {s : State} (h : va_Pc av (gPre (ZL aK aO aS aV aT) D tys W9 sz) a s) : va_Pc av (gPre (ZC aK aO aS aV aT) D tys W9 sz) a s := ⟨h.1, h.2.1, h.2.2.1, h.2.2.2.1, h.2.2.2.2.1, h.2.2.2.2.2.1⟩
theorem mI_up {r : Int32} (h : mI (ZC aK aO aS aV aT) D tys l y ws rm Wf av σ r σ') : mI (ZL aK aO aS aV aT) D tys l y ws rm Wf av σ r σ' := fun sz => Met_pre (h sz) fun _ _ => gPre_up
theorem xI_up {r : String ⊕ Int32} (h : xI (ZC aK aO aS aV aT) D tys l y ws rm Wf av σ r σ' mcq msq) : xI (ZL aK aO aS aV aT) D tys l y ws rm Wf av σ r σ' mcq msq := fun sz => vxMet_pre (h sz) fun _ _ => gPre_up
theorem mL_up {r : Int64} (h : mL (ZC aK aO aS aV aT) D tys l y ws rm Wf av σ r σ') : mL (ZL aK aO aS aV aT) D tys l y ws rm Wf av σ r σ' := fun sz => Met_pre (h sz) fun _ _ => gPre_up
theorem xL_up {r : String ⊕ Int64} (h : xL (ZC aK aO aS aV aT) D tys l y ws rm Wf av σ r σ' mcq msq) : xL (ZL aK aO aS aV aT) D tys l y ws rm Wf av σ r σ' mcq msq := fun sz => vxMet_pre (h sz) fun _ _ => gPre_up
theorem mF_up {r : UInt32} (h : mF (ZC aK aO aS aV aT) D tys l y ws rm Wf av σ r σ') : mF (ZL aK aO aS aV aT) D tys l y ws rm Wf av σ r σ' := fun sz => Met_pre (h sz) fun _ _ => gPre_up
theorem xF_up {r : String ⊕ UInt32} (h : xF (ZC aK aO aS aV aT) D tys l y ws rm Wf av σ r σ' mcq msq) : xF (ZL aK aO aS aV aT) D tys l y ws rm Wf av σ r σ' mcq msq := fun sz => vxMet_pre (h sz) fun _ _ => gPre_up
theorem mDd_up {r : UInt64} (h : mDd (ZC aK aO aS aV aT) D tys l y ws rm Wf av σ r σ') : mDd (ZL aK aO aS aV aT) D tys l y ws rm Wf av σ r σ' := fun sz => Met_pre (h sz) fun _ _ => gPre_up
theorem xDd_up {r : String ⊕ UInt64} (h : xDd (ZC aK aO aS aV aT) D tys l y ws rm Wf av σ r σ' mcq msq) : xDd (ZL aK aO aS aV aT) D tys l y ws rm Wf av σ r σ' mcq msq := fun sz => vxMet_pre (h sz) fun _ _ => gPre_up
end UP
/-- a wrapper's contract: it makes cells, and returns -/
def wI (ZZ : (Nat → Prop) → State → Heap → Prop) (D : va_G) (tys : List (ClassId × FieldType)) (l : Launch) (y : MethodName) (ws : List Cond) (rm : Room) {S : Type} (Wf : S → va_W) (av : List Value) (σ : S) (r : Int32) (σ' : S) (mcq msq : Nat) : Prop := ∀ sz : Nat, Met l y ws rm (va_Pc av (gPre ZZ D tys (Wf σ) sz)) (va_Qi (fun (r' : Int32) (u : S) => r' = r ∧ u = σ') (gAt D tys Wf (va_A (Wf σ) sz)) (va_A (Wf σ) sz)) mcq msq (va_A (Wf σ) sz)
section BH
variable {ZZ : (Nat → Prop) → State → Heap → Prop} {D : va_G} {tys : List (ClassId × FieldType)} {l : Launch} {y : MethodName} {ws ws' : List Cond} {rm : Room} {S : Type} {Wf : S → va_W} {av : List Value} {σ σ' : S} {cc : ByteArray} {maxL : Nat} {ret : Option FieldType}
theorem wI_of {r : Int32} {mcq msq : Nat} {hh : List (Nat × Nat × Nat × Nat)} (hy : plainName y.cls = true) (hw : ws = Cond.codeWith y cc maxL ret hh :: ws') (hlen : (lg_sl av).length ≤ maxL)
    (body : ∀ (p : Program) (e : Env) (s : State) (m : MethodId) (args : Array Value) (below : List Frame) (meth : Method) (c : Code) (A : Nat → Prop), gC ZZ p s m args meth c D tys A cc ws y.cls maxL ret → c.exceptionTable.toList = tableOf hh → gG p l e rm s m args below meth c D tys A maxL (MQ below (va_Qi (fun (r' : Int32) (u : S) => r' = r ∧ u = σ') (gAt D tys Wf A) A) args s mcq msq A) (Wf σ) 0 0 0 (lv_args 0 av) []) : wI ZZ D tys l y ws rm Wf av σ r σ' mcq msq := by
  intro sz
  refine MetFree.of_bodyS (code := cc) (maxLocals := maxL) (ret := ret) hy ?_ ?_
  · intro args s m h hn
    obtain ⟨m9, meth, c, hn9, h1, h2, h3, h4, -, h5, h6, -⟩ := Cond.codeWith_spec (atoms_spec (ws := ws) h _ (by rw [hw]; exact List.mem_cons_self))
    cases hn.symm.trans hn9
    exact ⟨meth, c, h1, h2, h3, h4, h5, h6⟩
  · intro p e s m args below meth c s₁ B hml0 hv _
    have hts := atoms_spec (ws := ws) B.pre
    have hcw : (Cond.codeWith y cc maxL ret hh).before args s = true := hts _ (by rw [hw]; exact List.mem_cons_self)
    have hml : c.maxLocals = maxL := by
      obtain ⟨m9, meth9, c9, hn9, h1, h2, -, h4, -⟩ := Cond.codeWith_spec hcw
      exact hml0
    obtain ⟨rfl, hsz, hP, hK, hD0, hZ⟩ := hv
    subst hsz
    have hown : s.vm.findClass y.cls = some m.cls := findClass_of_methodNamed B.named
    have hD := hD0.self (sz := s.heap.size)
    have hl := lv_entry av (n := maxL) hlen
    have hh0 : s₁.heap = s.heap := by rw [B.state]; rfl
    have K := body p e s m av.toArray below meth c (va_A (Wf σ) s.heap.size) ⟨⟨B.exec, B.bytes, hml, hown, hts⟩, hK, fun q h => Or.inr h, hZ, B.returns, B.notSynchronized⟩ (vx_table (x := y) B hcw) s.heap [] _ hP hD va_S.rf hl
    rw [← lg_entry_eq] at K
    obtain ⟨t, a1, o, b1, b2, b3⟩ := K s₁ hh0 (Stand.of_body B)
    exact ⟨t, o, a1, b1, b2, ⟨b3.1, b3.2⟩⟩
end BH
section CL
variable {p : Program} {l : Launch} {e : Env} {R : Room} {s : State} {m : MethodId} {args : Array Value} {below : List Frame} {meth : Method} {c : Code} {D : va_G} {tys : List (ClassId × FieldType)} {A : Nat → Prop} {nL : Nat} {Q : State → Prop} {cc : ByteArray} {Ts : List Cond} {own : String} {ret : Option FieldType} {ZZ : (Nat → Prop) → State → Heap → Prop}
variable {k n pc : Nat} {lv : List (Nat × Value)} {st st0 : List Value} {AD : Nat → Nat} {E : St → Nat → va_E} {L : List Nat} {X9 : va_W} {σ σ' : St} {ws ws9 : va_W}
variable {y2 : MethodName} {ws2 : List Cond} {rm2 : Room} {bytes : ByteArray} {maxL2 index nA : Nat} {ret2 : Option FieldType} {C : String} {T : u_T} {N ci j : Nat} {fs : List Value} {As : List Value} {mcq msq : Nat} {k' n' : Nat}
theorem g_xVI_cat (X : gC ZZ p s m args meth c D tys A cc Ts own nL ret) (hzz : gZ ZZ) {E0 name : String} (hMm : xI ZZ D tys l y2 ws2 rm2 (wF AD E L X9) (.ref (AD j) :: As) σ (.inl E0) σ' mcq msq) (cw : CallW R s args own C index y2 bytes maxL2 ret2 ws2 rm2 mcq msq nA) (hst : st0 = As.reverse ++ .ref (AD j) :: st) (hj : j ∈ L) (he : E σ j = .inr (ci, fs)) (hcq : vwCl[ci]? = some (C, T, N)) (hn : As.length = nA) (hcat : (st.map fun v => v.category).sum ≤ 8) (hkn : k + mcq ≤ R.cells ∧ n + msq ≤ R.slots) (hdg : decode cc pc = .ok (.invokevirtual index, 3)) (hk : k + mcq ≤ k') (hn' : n + msq ≤ n')
    (pre : List ExceptionTableEntry) (x : ExceptionTableEntry) (suf : List ExceptionTableEntry) (hsplit : c.exceptionTable.toList = pre ++ x :: suf) (hpass : ∀ z ∈ pre, covers z pc = false ∨ (z.catchType ≠ 0 ∧ ∃ nm : String, (Cond.classLink own z.catchType nm).before args s = true ∧ va_Nc E0 nm s)) (hx : covers x pc = true) (h0 : x.catchType ≠ 0) (hlink : (Cond.classLink own x.catchType name).before args s = true) (hcast : (Cond.castable E0 name).before args s = true)
    (kk : ∀ q9 : Nat, gG p l e R s m args below meth c D tys A nL Q (wF AD E L X9 σ') k' n' x.handlerPc lv [.ref q9]) : gG p l e R s m args below meth c D tys A nL Q (wF AD E L X9 σ) k n pc lv st0 := by
  subst hst
  intro H locs ls hP hD hSs hl0
  obtain ⟨q, hq⟩ := wF_get (A := AD) (E := E) (X := X9) (σ := σ) hj
  rw [he] at hq
  have hF := (gPre_of (av := []) hzz X.2.1 X.2.2.1 X.2.2.2.1 hP hD hSs).1
  refine vx_calli (vx_runV X.1 (hMm H.size) cw ⟨gPre_blind hzz, va_recv X.2.1 hP hcq hq, (gPre_of hzz X.2.1 X.2.2.1 X.2.2.2.1 hP hD hSs).2⟩ rfl hn hl0.1 rfl (lv_room hcat) hdg hkn) hSs (fun q _ h => hF q h) hF (fun q _ h => hF q h) (fun E9 ce qz9 u t H1 locs1 ht hvm hpx hBb hz hk1 hS1 hce hcv hcl => ?_) (fun r1 u1 t H1 locs1 ht hvm hw hBb hz1 hk1 hS1 => ?_)
  · subst hpx
    obtain ⟨he9, hP1, -, hD1⟩ := hBb
    rw [ht] at hP1
    have he8 : E9 = E0 := Sum.inl.inj he9
    subst he8
    exact vx_catch X.1.2.2.2.1 pre x suf hsplit hpass hx h0 hlink hcast hce hcv hcl (W.widen hk hn' (kk qz9 H1 locs1 ls hP1 (hD1.weaken (fun k9 qz9 h9 _ => hF _ (hD1.2 k9 qz9 h9))) hS1 hl0))
  · exact nomatch hw.1
theorem g_xVL_cat (X : gC ZZ p s m args meth c D tys A cc Ts own nL ret) (hzz : gZ ZZ) {E0 name : String} (hMm : xL ZZ D tys l y2 ws2 rm2 (wF AD E L X9) (.ref (AD j) :: As) σ (.inl E0) σ' mcq msq) (cw : CallW R s args own C index y2 bytes maxL2 ret2 ws2 rm2 mcq msq nA) (hst : st0 = As.reverse ++ .ref (AD j) :: st) (hj : j ∈ L) (he : E σ j = .inr (ci, fs)) (hcq : vwCl[ci]? = some (C, T, N)) (hn : As.length = nA) (hcat : (st.map fun v => v.category).sum ≤ 8) (hkn : k + mcq ≤ R.cells ∧ n + msq ≤ R.slots) (hdg : decode cc pc = .ok (.invokevirtual index, 3)) (hk : k + mcq ≤ k') (hn' : n + msq ≤ n')
    (pre : List ExceptionTableEntry) (x : ExceptionTableEntry) (suf : List ExceptionTableEntry) (hsplit : c.exceptionTable.toList = pre ++ x :: suf) (hpass : ∀ z ∈ pre, covers z pc = false ∨ (z.catchType ≠ 0 ∧ ∃ nm : String, (Cond.classLink own z.catchType nm).before args s = true ∧ va_Nc E0 nm s)) (hx : covers x pc = true) (h0 : x.catchType ≠ 0) (hlink : (Cond.classLink own x.catchType name).before args s = true) (hcast : (Cond.castable E0 name).before args s = true)
    (kk : ∀ q9 : Nat, gG p l e R s m args below meth c D tys A nL Q (wF AD E L X9 σ') k' n' x.handlerPc lv [.ref q9]) : gG p l e R s m args below meth c D tys A nL Q (wF AD E L X9 σ) k n pc lv st0 := by
  subst hst
  intro H locs ls hP hD hSs hl0
  obtain ⟨q, hq⟩ := wF_get (A := AD) (E := E) (X := X9) (σ := σ) hj
  rw [he] at hq
  have hF := (gPre_of (av := []) hzz X.2.1 X.2.2.1 X.2.2.2.1 hP hD hSs).1
  refine vx_calll (vx_runV X.1 (hMm H.size) cw ⟨gPre_blind hzz, va_recv X.2.1 hP hcq hq, (gPre_of hzz X.2.1 X.2.2.1 X.2.2.2.1 hP hD hSs).2⟩ rfl hn hl0.1 rfl (lv_room hcat) hdg hkn) hSs (fun q _ h => hF q h) hF (fun q _ h => hF q h) (fun E9 ce qz9 u t H1 locs1 ht hvm hpx hBb hz hk1 hS1 hce hcv hcl => ?_) (fun r1 u1 t H1 locs1 ht hvm hw hBb hz1 hk1 hS1 => ?_)
  · subst hpx
    obtain ⟨he9, hP1, -, hD1⟩ := hBb
    rw [ht] at hP1
    have he8 : E9 = E0 := Sum.inl.inj he9
    subst he8
    exact vx_catch X.1.2.2.2.1 pre x suf hsplit hpass hx h0 hlink hcast hce hcv hcl (W.widen hk hn' (kk qz9 H1 locs1 ls hP1 (hD1.weaken (fun k9 qz9 h9 _ => hF _ (hD1.2 k9 qz9 h9))) hS1 hl0))
  · exact nomatch hw.1
theorem g_xVF_cat (X : gC ZZ p s m args meth c D tys A cc Ts own nL ret) (hzz : gZ ZZ) {E0 name : String} (hMm : xF ZZ D tys l y2 ws2 rm2 (wF AD E L X9) (.ref (AD j) :: As) σ (.inl E0) σ' mcq msq) (cw : CallW R s args own C index y2 bytes maxL2 ret2 ws2 rm2 mcq msq nA) (hst : st0 = As.reverse ++ .ref (AD j) :: st) (hj : j ∈ L) (he : E σ j = .inr (ci, fs)) (hcq : vwCl[ci]? = some (C, T, N)) (hn : As.length = nA) (hcat : (st.map fun v => v.category).sum ≤ 8) (hkn : k + mcq ≤ R.cells ∧ n + msq ≤ R.slots) (hdg : decode cc pc = .ok (.invokevirtual index, 3)) (hk : k + mcq ≤ k') (hn' : n + msq ≤ n')
    (pre : List ExceptionTableEntry) (x : ExceptionTableEntry) (suf : List ExceptionTableEntry) (hsplit : c.exceptionTable.toList = pre ++ x :: suf) (hpass : ∀ z ∈ pre, covers z pc = false ∨ (z.catchType ≠ 0 ∧ ∃ nm : String, (Cond.classLink own z.catchType nm).before args s = true ∧ va_Nc E0 nm s)) (hx : covers x pc = true) (h0 : x.catchType ≠ 0) (hlink : (Cond.classLink own x.catchType name).before args s = true) (hcast : (Cond.castable E0 name).before args s = true)
    (kk : ∀ q9 : Nat, gG p l e R s m args below meth c D tys A nL Q (wF AD E L X9 σ') k' n' x.handlerPc lv [.ref q9]) : gG p l e R s m args below meth c D tys A nL Q (wF AD E L X9 σ) k n pc lv st0 := by
  subst hst
  intro H locs ls hP hD hSs hl0
  obtain ⟨q, hq⟩ := wF_get (A := AD) (E := E) (X := X9) (σ := σ) hj
  rw [he] at hq
  have hF := (gPre_of (av := []) hzz X.2.1 X.2.2.1 X.2.2.2.1 hP hD hSs).1
  refine vx_callf (vx_runV X.1 (hMm H.size) cw ⟨gPre_blind hzz, va_recv X.2.1 hP hcq hq, (gPre_of hzz X.2.1 X.2.2.1 X.2.2.2.1 hP hD hSs).2⟩ rfl hn hl0.1 rfl (lv_room hcat) hdg hkn) hSs (fun q _ h => hF q h) hF (fun q _ h => hF q h) (fun E9 ce qz9 u t H1 locs1 ht hvm hpx hBb hz hk1 hS1 hce hcv hcl => ?_) (fun r1 u1 t H1 locs1 ht hvm hw hBb hz1 hk1 hS1 => ?_)
  · subst hpx
    obtain ⟨he9, hP1, -, hD1⟩ := hBb
    rw [ht] at hP1
    have he8 : E9 = E0 := Sum.inl.inj he9
    subst he8
    exact vx_catch X.1.2.2.2.1 pre x suf hsplit hpass hx h0 hlink hcast hce hcv hcl (W.widen hk hn' (kk qz9 H1 locs1 ls hP1 (hD1.weaken (fun k9 qz9 h9 _ => hF _ (hD1.2 k9 qz9 h9))) hS1 hl0))
  · exact nomatch hw.1
theorem g_xVDd_cat (X : gC ZZ p s m args meth c D tys A cc Ts own nL ret) (hzz : gZ ZZ) {E0 name : String} (hMm : xDd ZZ D tys l y2 ws2 rm2 (wF AD E L X9) (.ref (AD j) :: As) σ (.inl E0) σ' mcq msq) (cw : CallW R s args own C index y2 bytes maxL2 ret2 ws2 rm2 mcq msq nA) (hst : st0 = As.reverse ++ .ref (AD j) :: st) (hj : j ∈ L) (he : E σ j = .inr (ci, fs)) (hcq : vwCl[ci]? = some (C, T, N)) (hn : As.length = nA) (hcat : (st.map fun v => v.category).sum ≤ 8) (hkn : k + mcq ≤ R.cells ∧ n + msq ≤ R.slots) (hdg : decode cc pc = .ok (.invokevirtual index, 3)) (hk : k + mcq ≤ k') (hn' : n + msq ≤ n')
    (pre : List ExceptionTableEntry) (x : ExceptionTableEntry) (suf : List ExceptionTableEntry) (hsplit : c.exceptionTable.toList = pre ++ x :: suf) (hpass : ∀ z ∈ pre, covers z pc = false ∨ (z.catchType ≠ 0 ∧ ∃ nm : String, (Cond.classLink own z.catchType nm).before args s = true ∧ va_Nc E0 nm s)) (hx : covers x pc = true) (h0 : x.catchType ≠ 0) (hlink : (Cond.classLink own x.catchType name).before args s = true) (hcast : (Cond.castable E0 name).before args s = true)
    (kk : ∀ q9 : Nat, gG p l e R s m args below meth c D tys A nL Q (wF AD E L X9 σ') k' n' x.handlerPc lv [.ref q9]) : gG p l e R s m args below meth c D tys A nL Q (wF AD E L X9 σ) k n pc lv st0 := by
  subst hst
  intro H locs ls hP hD hSs hl0
  obtain ⟨q, hq⟩ := wF_get (A := AD) (E := E) (X := X9) (σ := σ) hj
  rw [he] at hq
  have hF := (gPre_of (av := []) hzz X.2.1 X.2.2.1 X.2.2.2.1 hP hD hSs).1
  refine vx_calld (vx_runV X.1 (hMm H.size) cw ⟨gPre_blind hzz, va_recv X.2.1 hP hcq hq, (gPre_of hzz X.2.1 X.2.2.1 X.2.2.2.1 hP hD hSs).2⟩ rfl hn hl0.1 rfl (lv_room hcat) hdg hkn) hSs (fun q _ h => hF q h) hF (fun q _ h => hF q h) (fun E9 ce qz9 u t H1 locs1 ht hvm hpx hBb hz hk1 hS1 hce hcv hcl => ?_) (fun r1 u1 t H1 locs1 ht hvm hw hBb hz1 hk1 hS1 => ?_)
  · subst hpx
    obtain ⟨he9, hP1, -, hD1⟩ := hBb
    rw [ht] at hP1
    have he8 : E9 = E0 := Sum.inl.inj he9
    subst he8
    exact vx_catch X.1.2.2.2.1 pre x suf hsplit hpass hx h0 hlink hcast hce hcv hcl (W.widen hk hn' (kk qz9 H1 locs1 ls hP1 (hD1.weaken (fun k9 qz9 h9 _ => hF _ (hD1.2 k9 qz9 h9))) hS1 hl0))
  · exact nomatch hw.1
theorem g_xVL_ret (X : gC ZZ p s m args meth c D tys A cc Ts own nL ret) (hzz : gZ ZZ) {r : Int64} (hMm : xL ZZ D tys l y2 ws2 rm2 (wF AD E L X9) (.ref (AD j) :: As) σ (.inr r) σ' mcq msq) (cw : CallW R s args own C index y2 bytes maxL2 ret2 ws2 rm2 mcq msq nA) (hst : st0 = As.reverse ++ .ref (AD j) :: st) (hj : j ∈ L) (he : E σ j = .inr (ci, fs)) (hcq : vwCl[ci]? = some (C, T, N)) (hn : As.length = nA) (hcat : (st.map fun v => v.category).sum ≤ 8) (hkn : k + mcq ≤ R.cells ∧ n + msq ≤ R.slots) (hdg : decode cc pc = .ok (.invokevirtual index, 3)) (hk : k + mcq ≤ k') (hn' : n + msq ≤ n') (kk : gG p l e R s m args below meth c D tys A nL Q (wF AD E L X9 σ') k' n' (pc + 3) lv (.long r :: st)) : gG p l e R s m args below meth c D tys A nL Q (wF AD E L X9 σ) k n pc lv st0 := by
  subst hst
  intro H locs ls hP hD hSs hl0
  obtain ⟨q, hq⟩ := wF_get (A := AD) (E := E) (X := X9) (σ := σ) hj
  rw [he] at hq
  have hF := (gPre_of (av := []) hzz X.2.1 X.2.2.1 X.2.2.2.1 hP hD hSs).1
  refine vx_calll (vx_runV X.1 (hMm H.size) cw ⟨gPre_blind hzz, va_recv X.2.1 hP hcq hq, (gPre_of hzz X.2.1 X.2.2.1 X.2.2.2.1 hP hD hSs).2⟩ rfl hn hl0.1 rfl (lv_room hcat) hdg hkn) hSs (fun q _ h => hF q h) hF (fun q _ h => hF q h) (fun E9 ce qz9 u t H1 locs1 ht hvm hpx hBb hz hk1 hS1 hce hcv hcl => ?_) (fun r1 u1 t H1 locs1 ht hvm hw hBb hz1 hk1 hS1 => ?_)
  · exact nomatch hBb.1
  · obtain ⟨hr9, rfl⟩ := hw
    cases hr9
    obtain ⟨hP1, -, hD1⟩ := hBb
    rw [ht] at hP1
    exact W.widen hk hn' (kk H1 locs1 ls hP1 (hD1.weaken (fun k9 qz9 h9 _ => hF _ (hD1.2 k9 qz9 h9))) hS1 hl0)
theorem g_xVF_ret (X : gC ZZ p s m args meth c D tys A cc Ts own nL ret) (hzz : gZ ZZ) {r : UInt32} (hMm : xF ZZ D tys l y2 ws2 rm2 (wF AD E L X9) (.ref (AD j) :: As) σ (.inr r) σ' mcq msq) (cw : CallW R s args own C index y2 bytes maxL2 ret2 ws2 rm2 mcq msq nA) (hst : st0 = As.reverse ++ .ref (AD j) :: st) (hj : j ∈ L) (he : E σ j = .inr (ci, fs)) (hcq : vwCl[ci]? = some (C, T, N)) (hn : As.length = nA) (hcat : (st.map fun v => v.category).sum ≤ 8) (hkn : k + mcq ≤ R.cells ∧ n + msq ≤ R.slots) (hdg : decode cc pc = .ok (.invokevirtual index, 3)) (hk : k + mcq ≤ k') (hn' : n + msq ≤ n') (kk : gG p l e R s m args below meth c D tys A nL Q (wF AD E L X9 σ') k' n' (pc + 3) lv (.float r :: st)) : gG p l e R s m args below meth c D tys A nL Q (wF AD E L X9 σ) k n pc lv st0 := by
  subst hst
  intro H locs ls hP hD hSs hl0
  obtain ⟨q, hq⟩ := wF_get (A := AD) (E := E) (X := X9) (σ := σ) hj
  rw [he] at hq
  have hF := (gPre_of (av := []) hzz X.2.1 X.2.2.1 X.2.2.2.1 hP hD hSs).1
  refine vx_callf (vx_runV X.1 (hMm H.size) cw ⟨gPre_blind hzz, va_recv X.2.1 hP hcq hq, (gPre_of hzz X.2.1 X.2.2.1 X.2.2.2.1 hP hD hSs).2⟩ rfl hn hl0.1 rfl (lv_room hcat) hdg hkn) hSs (fun q _ h => hF q h) hF (fun q _ h => hF q h) (fun E9 ce qz9 u t H1 locs1 ht hvm hpx hBb hz hk1 hS1 hce hcv hcl => ?_) (fun r1 u1 t H1 locs1 ht hvm hw hBb hz1 hk1 hS1 => ?_)
  · exact nomatch hBb.1
  · obtain ⟨hr9, rfl⟩ := hw
    cases hr9
    obtain ⟨hP1, -, hD1⟩ := hBb
    rw [ht] at hP1
    exact W.widen hk hn' (kk H1 locs1 ls hP1 (hD1.weaken (fun k9 qz9 h9 _ => hF _ (hD1.2 k9 qz9 h9))) hS1 hl0)
theorem g_xVDd_ret (X : gC ZZ p s m args meth c D tys A cc Ts own nL ret) (hzz : gZ ZZ) {r : UInt64} (hMm : xDd ZZ D tys l y2 ws2 rm2 (wF AD E L X9) (.ref (AD j) :: As) σ (.inr r) σ' mcq msq) (cw : CallW R s args own C index y2 bytes maxL2 ret2 ws2 rm2 mcq msq nA) (hst : st0 = As.reverse ++ .ref (AD j) :: st) (hj : j ∈ L) (he : E σ j = .inr (ci, fs)) (hcq : vwCl[ci]? = some (C, T, N)) (hn : As.length = nA) (hcat : (st.map fun v => v.category).sum ≤ 8) (hkn : k + mcq ≤ R.cells ∧ n + msq ≤ R.slots) (hdg : decode cc pc = .ok (.invokevirtual index, 3)) (hk : k + mcq ≤ k') (hn' : n + msq ≤ n') (kk : gG p l e R s m args below meth c D tys A nL Q (wF AD E L X9 σ') k' n' (pc + 3) lv (.double r :: st)) : gG p l e R s m args below meth c D tys A nL Q (wF AD E L X9 σ) k n pc lv st0 := by
  subst hst
  intro H locs ls hP hD hSs hl0
  obtain ⟨q, hq⟩ := wF_get (A := AD) (E := E) (X := X9) (σ := σ) hj
  rw [he] at hq
  have hF := (gPre_of (av := []) hzz X.2.1 X.2.2.1 X.2.2.2.1 hP hD hSs).1
  refine vx_calld (vx_runV X.1 (hMm H.size) cw ⟨gPre_blind hzz, va_recv X.2.1 hP hcq hq, (gPre_of hzz X.2.1 X.2.2.1 X.2.2.2.1 hP hD hSs).2⟩ rfl hn hl0.1 rfl (lv_room hcat) hdg hkn) hSs (fun q _ h => hF q h) hF (fun q _ h => hF q h) (fun E9 ce qz9 u t H1 locs1 ht hvm hpx hBb hz hk1 hS1 hce hcv hcl => ?_) (fun r1 u1 t H1 locs1 ht hvm hw hBb hz1 hk1 hS1 => ?_)
  · exact nomatch hBb.1
  · obtain ⟨hr9, rfl⟩ := hw
    cases hr9
    obtain ⟨hP1, -, hD1⟩ := hBb
    rw [ht] at hP1
    exact W.widen hk hn' (kk H1 locs1 ls hP1 (hD1.weaken (fun k9 qz9 h9 _ => hF _ (hD1.2 k9 qz9 h9))) hS1 hl0)
theorem g_lawS (X : gC ZZ p s m args meth c D tys A cc Ts own nL ret) (hzz : gZ ZZ) {S : Type} {Wf : S → va_W} {u u' : S} {r : Int32} {hh : List (Nat × Nat × Nat × Nat)} (hMm : wI ZZ D tys l y2 ws2 rm2 Wf As u r u' mcq msq) (cw : vx_CSW R s args own index y2 bytes maxL2 ret2 hh ws2 rm2 mcq msq nA) (hst : st0 = As.reverse ++ st) (hn : As.length = nA) (hcat : (st.map fun v => v.category).sum ≤ 8) (hkn : k + mcq ≤ R.cells ∧ n + msq ≤ R.slots) (hdg : decode cc pc = .ok (.invokestatic index, 3)) (hk : k + mcq ≤ k') (hn' : n + msq ≤ n') (hu : Wf u = ws) (hu' : Wf u' = ws9) (kk : gG p l e R s m args below meth c D tys A nL Q ws9 k' n' (pc + 3) lv (.int r :: st)) : gG p l e R s m args below meth c D tys A nL Q ws k n pc lv st0 := by
  subst hst hu hu'
  intro H locs ls hP hD hSs hl0
  have hF := (gPre_of (av := []) hzz X.2.1 X.2.2.1 X.2.2.2.1 hP hD hSs).1
  refine va_calli (vx_runSW X.1 (hMm H.size) cw ⟨gPre_blind hzz, (gPre_of hzz X.2.1 X.2.2.1 X.2.2.2.1 hP hD hSs).2⟩ rfl hn hl0.1 rfl (lv_room hcat) hdg hkn) hSs (fun q _ h => hF q h) hF (fun r1 u1 t H1 locs1 ht hvm hw hBb hz1 hk1 hS1 => ?_)
  obtain ⟨rfl, rfl⟩ := hw
  obtain ⟨hP1, -, hD1⟩ := hBb
  rw [ht] at hP1
  exact W.widen hk hn' (kk H1 locs1 ls hP1 (hD1.weaken (fun k9 qz9 h9 _ => hF _ (hD1.2 k9 qz9 h9))) hS1 hl0)
theorem g_last (X : gC ZZ p s m args meth c D tys A cc Ts own nL ret) (q0 t0 : Nat) {q : Nat} {cA : ClassId} {n9 : Nat} {f : Nat → Int64} (ha : ws[q0]? = some (q, .inl (cA, n9, .inr (.inl f)))) (ht : tys[t0]? = some (cA, .long)) {i : Int32} {x : Int64} (hin : vp_in i n9) (hdg : decode cc pc = .ok (.lastore, 1)) (hw : ws.set q0 (q, .inl (cA, n9, .inr (.inl (vp_updL f i.toNatClampNeg x)))) = ws9) (kk : gG p l e R s m args below meth c D tys A nL Q ws9 k n (pc + 1) lv st) : gG p l e R s m args below meth c D tys A nL Q ws k n pc lv (.long x :: .int i :: .ref q :: st) := by
  subst hw
  intro H locs ls hP hD hSs hl0
  exact va_last X.1.1 X.1.2.1 X.2.1 hP hD hSs q0 t0 ha ht hin hdg (fun H1 locs1 hP1 hD1 hS1 => kk H1 locs1 ls hP1 hD1 hS1 hl0)
theorem g_dast (X : gC ZZ p s m args meth c D tys A cc Ts own nL ret) (q0 t0 : Nat) {q : Nat} {cA : ClassId} {n9 : Nat} {f : Nat → UInt64} (ha : ws[q0]? = some (q, .inl (cA, n9, .inr (.inr (.inr (.inl f)))))) (ht : tys[t0]? = some (cA, .double)) {i : Int32} {x : UInt64} (hin : vp_in i n9) (hdg : decode cc pc = .ok (.dastore, 1)) (hw : ws.set q0 (q, .inl (cA, n9, .inr (.inr (.inr (.inl (vf_upd f i.toNatClampNeg x)))))) = ws9) (kk : gG p l e R s m args below meth c D tys A nL Q ws9 k n (pc + 1) lv st) : gG p l e R s m args below meth c D tys A nL Q ws k n pc lv (.double x :: .int i :: .ref q :: st) := by
  subst hw
  intro H locs ls hP hD hSs hl0
  exact va_dast X.1.1 X.1.2.1 X.2.1 hP hD hSs q0 t0 ha ht hin hdg (fun H1 locs1 hP1 hD1 hS1 => kk H1 locs1 ls hP1 hD1 hS1 hl0)
theorem g_lald (X : gC ZZ p s m args meth c D tys A cc Ts own nL ret) (q0 t0 : Nat) {q : Nat} {cA : ClassId} {n9 : Nat} {f : Nat → Int64} (ha : ws[q0]? = some (q, .inl (cA, n9, .inr (.inl f)))) (ht : tys[t0]? = some (cA, .long)) {i : Int32} (hin : vp_in i n9) (hdg : decode cc pc = .ok (.laload, 1)) (kk : gG p l e R s m args below meth c D tys A nL Q ws k n (pc + 1) lv (.long (f i.toNatClampNeg) :: st)) : gG p l e R s m args below meth c D tys A nL Q ws k n pc lv (.int i :: .ref q :: st) := by
  intro H locs ls hP hD hSs hl0
  exact va_lald X.1.1 X.1.2.1 X.2.1 hP q0 t0 ha ht hin hdg (kk H locs ls hP hD hSs hl0)
theorem g_dald (X : gC ZZ p s m args meth c D tys A cc Ts own nL ret) (q0 t0 : Nat) {q : Nat} {cA : ClassId} {n9 : Nat} {f : Nat → UInt64} (ha : ws[q0]? = some (q, .inl (cA, n9, .inr (.inr (.inr (.inl f)))))) (ht : tys[t0]? = some (cA, .double)) {i : Int32} (hin : vp_in i n9) (hdg : decode cc pc = .ok (.daload, 1)) (kk : gG p l e R s m args below meth c D tys A nL Q ws k n (pc + 1) lv (.double (f i.toNatClampNeg) :: st)) : gG p l e R s m args below meth c D tys A nL Q ws k n pc lv (.int i :: .ref q :: st) := by
  intro H locs ls hP hD hSs hl0
  exact va_dald X.1.1 X.1.2.1 X.2.1 hP q0 t0 ha ht hin hdg (kk H locs ls hP hD hSs hl0)
theorem g_scld (X : gC ZZ p s m args meth c D tys A cc Ts own nL ret) {b L9 : Nat} {xs : Nat → Int32} (hX : va_X b L9 xs s s.heap) (hbl : b < s.heap.size) (hbA : ¬ A b) {i : Int32} (hin : vp_in i L9) (hdg : decode cc pc = .ok (.iaload, 1)) (kk : gG p l e R s m args below meth c D tys A nL Q ws k n (pc + 1) lv (.int (xs i.toNatClampNeg) :: st)) : gG p l e R s m args below meth c D tys A nL Q ws k n pc lv (.int i :: .ref b :: st) := by
  intro H locs ls hP hD hSs hl0
  exact va_sld X.1.1 X.1.2.1 hX hbl hbA hSs hin hdg (kk H locs ls hP hD hSs hl0)
theorem g_sclen (X : gC ZZ p s m args meth c D tys A cc Ts own nL ret) {b L9 : Nat} {xs : Nat → Int32} (hX : va_X b L9 xs s s.heap) (hbl : b < s.heap.size) (hbA : ¬ A b) (hdg : decode cc pc = .ok (.arraylength, 1)) (kk : gG p l e R s m args below meth c D tys A nL Q ws k n (pc + 1) lv (.int (Int32.ofNat L9) :: st)) : gG p l e R s m args below meth c D tys A nL Q ws k n pc lv (.ref b :: st) := by
  intro H locs ls hP hD hSs hl0
  exact va_slen X.1.1 X.1.2.1 hX hbl hbA hSs hdg (kk H locs ls hP hD hSs hl0)
end CL
theorem vaP_mem {D : va_G} {cl : List vw_C} {ws ws' : va_W} {H : Heap} (h : va_P D cl ws H) (hm : ∀ q ∈ ws', q ∈ ws) : va_P D cl ws' H := fun k q hk => by
  obtain ⟨j, hj⟩ := List.getElem?_of_mem (hm q (List.mem_of_getElem? hk))
  exact h j q hj
theorem vaD_iff {A : Nat → Prop} {ws : va_W} : va_D A ws ↔ ((ws.map (·.1)).Nodup ∧ ∀ q ∈ ws, A q.1) := by
  constructor
  · intro h
    refine ⟨List.pairwise_iff_getElem.mpr fun i j hi hj hij e => ?_, fun q hq => ?_⟩
    · rw [List.getElem_map, List.getElem_map] at e
      rw [List.length_map] at hi hj
      have := h.1 i j _ _ (List.getElem?_eq_getElem hi) (List.getElem?_eq_getElem hj) e
      omega
    · obtain ⟨j, hj⟩ := List.getElem?_of_mem hq
      exact h.2 j q hj
  · intro h
    refine ⟨fun i j a b hi hj e => ?_, fun k q hk => h.2 q (List.mem_of_getElem? hk)⟩
    obtain ⟨hi1, rfl⟩ := List.getElem?_eq_some_iff.mp hi
    obtain ⟨hj1, rfl⟩ := List.getElem?_eq_some_iff.mp hj
    rcases Nat.lt_trichotomy i j with q | q | q
    · exact absurd (by rw [List.getElem_map, List.getElem_map]; exact e) (List.pairwise_iff_getElem.mp h.1 i j (by rw [List.length_map]; exact hi1) (by rw [List.length_map]; exact hj1) q)
    · exact q
    · exact absurd (by rw [List.getElem_map, List.getElem_map]; exact e.symm) (List.pairwise_iff_getElem.mp h.1 j i (by rw [List.length_map]; exact hj1) (by rw [List.length_map]; exact hi1) q)
theorem vaD_perm {A : Nat → Prop} {ws ws' : va_W} (h : va_D A ws) (hp : ws.Perm ws') : va_D A ws' := by
  obtain ⟨h1, h2⟩ := vaD_iff.mp h
  exact vaD_iff.mpr ⟨(hp.map _).nodup h1, fun q hq => h2 q (hp.mem_iff.mpr hq)⟩
section PM
variable {p : Program} {l : Launch} {e : Env} {R : Room} {s : State} {m : MethodId} {args : Array Value} {below : List Frame} {meth : Method} {c : Code} {D : va_G} {tys : List (ClassId × FieldType)} {A : Nat → Prop} {nL : Nat} {Q : State → Prop}
variable {ws ws9 : va_W} {k n pc : Nat} {lv : List (Nat × Value)} {st : List Value}
theorem g_perm (hp : ws.Perm ws9) (kk : gG p l e R s m args below meth c D tys A nL Q ws9 k n pc lv st) : gG p l e R s m args below meth c D tys A nL Q ws k n pc lv st := fun H locs ls hP hD hS hl => kk H locs ls (vaP_mem hP fun q hq => hp.mem_iff.mpr hq) (vaD_perm hD hp) hS hl
end PM
