/-! what the law rests on beside the class's ZC; contracts that make cells; calls of the law's own methods -/
def zLi : List Nat := [17, 30, 36, 38, 40, 46, 48, 50, 52, 54, 56]
def zLx : List String := ["- ", "", " mod ", "same ", " ", ";", "rise ", "fall ", "wave ", "draw ", "teeth "]
def zLl : List Nat := [2, 0, 5, 5, 1, 1, 5, 5, 5, 5, 6]
def zLb : List (List Int32) := [[45, 32], [], [32, 109, 111, 100, 32], [115, 97, 109, 101, 32], [32], [59], [114, 105, 115, 101, 32], [102, 97, 108, 108, 32], [119, 97, 118, 101, 32], [100, 114, 97, 119, 32], [116, 101, 101, 116, 104, 32]]
def zDo (i : Nat) : Int32 := Int32.ofNat (48 + i % 10)
def zDt (i : Nat) : Int32 := Int32.ofNat (48 + i / 10)
def ZT (bS bV dA : Nat → Nat) (A : Nat → Prop) (U : State) (H : Heap) : Prop :=
  (∀ i, i < 11 → vk_R RL (zLi.getD i 0) (zLx.getD i "") (bS i) U ∧ vk_S 1 [zLl.getD i 0] [zLb.getD i []] (fun _ => bS i) (fun _ => bV i) A U H) ∧
  va_Z "java/lang/Integer" "DigitOnes" "[B" (.ref (dA 0)) A U H ∧ va_T .byte (dA 0) 100 (fun i => .int (zDo i)) A U H ∧
  va_Z "java/lang/Integer" "DigitTens" "[B" (.ref (dA 1)) A U H ∧ va_T .byte (dA 1) 100 (fun i => .int (zDt i)) A U H
def ZL (aK aO aS aV aT bS bV dA : Nat → Nat) (A : Nat → Prop) (U : State) (H : Heap) : Prop := ZC aK aO aS aV aT A U H ∧ (∀ E ∈ zX, ∀ nm ∈ zX, E ≠ nm → va_Nc E nm U) ∧ ZT bS bV dA A U H
theorem ZT_ok (bS bV dA : Nat → Nat) : gZ (ZT bS bV dA) := by
  refine ⟨fun A U H H1 h hq => ?_, fun A B U H h hAB => ?_, fun A s U H hW h => ?_, fun A u U H hv h => ?_⟩
  · obtain ⟨h0, h1, h2, h3, h4⟩ := h
    exact ⟨fun i hi => ⟨(h0 i hi).1, (h0 i hi).2.kept hq⟩, h1.kept hq, h2.kept hq, h3.kept hq, h4.kept hq⟩
  · obtain ⟨h0, h1, h2, h3, h4⟩ := h
    exact ⟨fun i hi => ⟨(h0 i hi).1, (h0 i hi).2.narrow hAB⟩, h1.narrow hAB, h2.narrow hAB, h3.narrow hAB, h4.narrow hAB⟩
  · obtain ⟨h0, h1, h2, h3, h4⟩ := h
    exact ⟨fun i hi => ⟨vk_R.warm hW (h0 i hi).1, vk_S.moved hW.alike (h0 i hi).2⟩, va_Z.moved hW.alike h1, va_T.moved hW.alike h2, va_Z.moved hW.alike h3, va_T.moved hW.alike h4⟩
  · obtain ⟨h0, h1, h2, h3, h4⟩ := h
    have hal : u.vm.Alike U.vm := by rw [hv]; exact Vm.Alike.refl _
    exact ⟨fun i hi => ⟨vk_R.same hv (h0 i hi).1, vk_S.moved hal (h0 i hi).2⟩, va_Z.moved hal h1, va_T.moved hal h2, va_Z.moved hal h3, va_T.moved hal h4⟩
theorem ZL_ok (aK aO aS aV aT bS bV dA : Nat → Nat) : gZ (ZL aK aO aS aV aT bS bV dA) := by
  obtain ⟨z1, z2, z3, z4⟩ := ZC_ok aK aO aS aV aT
  obtain ⟨t1, t2, t3, t4⟩ := ZT_ok bS bV dA
  exact ⟨fun A U H H1 h hq => ⟨z1 A U H H1 h.1 hq, h.2.1, t1 A U H H1 h.2.2 hq⟩, fun A B U H h hAB => ⟨z2 A B U H h.1 hAB, h.2.1, t2 A B U H h.2.2 hAB⟩, fun A s U H hW h => ⟨z3 A s U H hW h.1, fun E hE nm hn hne => (h.2.1 E hE nm hn hne).moved hW.alike, t3 A s U H hW h.2.2⟩, fun A u U H hv h => ⟨z4 A u U H hv h.1, fun E hE nm hn hne => (h.2.1 E hE nm hn hne).moved (by rw [hv]; exact Vm.Alike.refl _), t4 A u U H hv h.2.2⟩⟩
theorem Met_pre {l : Launch} {y : MethodName} {ws : List Cond} {rm : Room} {Pc Pc' : Array Value → State → Prop} {Qc : Array Value → State → Outcome → State → Prop} {mcq msq : Nat} {free : Addr → Prop} (h : Met l y ws rm Pc Qc mcq msq free) (hp : ∀ a s, Pc' a s → Pc a s) : Met l y ws rm Pc' Qc mcq msq free :=
  fun p e ha hcq hk s m args below hf happ hP hK => h p e ha hcq hk s m args below hf happ (hp _ _ hP) hK
theorem vxMet_pre {l : Launch} {y : MethodName} {ws : List Cond} {rm : Room} {Pc Pc' : Array Value → State → Prop} {Qc : Array Value → State → Outcome → State → Prop} {XC : String → State → State → Prop} {mcq msq : Nat} {free : Addr → Prop} (h : vx_Met l y ws rm Pc Qc XC mcq msq free) (hp : ∀ a s, Pc' a s → Pc a s) : vx_Met l y ws rm Pc' Qc XC mcq msq free :=
  fun p e ha hcq hk s m args below hf happ hP hK => h p e ha hcq hk s m args below hf happ (hp _ _ hP) hK
section UP
variable {aK aO aS aV aT bS bV dA : Nat → Nat} {D : va_G} {tys : List (ClassId × FieldType)} {l : Launch} {y : MethodName} {ws : List Cond} {rm : Room} {S : Type} {Wf : S → va_W} {av : List Value} {σ σ' : S} {mcq msq : Nat}
theorem gPre_up {W9 : va_W} {sz : Nat} {a : Array Value} {s : State} (h : va_Pc av (gPre (ZL aK aO aS aV aT bS bV dA) D tys W9 sz) a s) : va_Pc av (gPre (ZC aK aO aS aV aT) D tys W9 sz) a s := ⟨h.1, h.2.1, h.2.2.1, h.2.2.2.1, h.2.2.2.2.1, h.2.2.2.2.2.1⟩
theorem mI_up {r : Int32} (h : mI (ZC aK aO aS aV aT) D tys l y ws rm Wf av σ r σ') : mI (ZL aK aO aS aV aT bS bV dA) D tys l y ws rm Wf av σ r σ' := fun sz => Met_pre (h sz) fun _ _ => gPre_up
theorem xI_up {r : String ⊕ Int32} (h : xI (ZC aK aO aS aV aT) D tys l y ws rm Wf av σ r σ' mcq msq) : xI (ZL aK aO aS aV aT bS bV dA) D tys l y ws rm Wf av σ r σ' mcq msq := fun sz => vxMet_pre (h sz) fun _ _ => gPre_up
theorem mL_up {r : Int64} (h : mL (ZC aK aO aS aV aT) D tys l y ws rm Wf av σ r σ') : mL (ZL aK aO aS aV aT bS bV dA) D tys l y ws rm Wf av σ r σ' := fun sz => Met_pre (h sz) fun _ _ => gPre_up
theorem xL_up {r : String ⊕ Int64} (h : xL (ZC aK aO aS aV aT) D tys l y ws rm Wf av σ r σ' mcq msq) : xL (ZL aK aO aS aV aT bS bV dA) D tys l y ws rm Wf av σ r σ' mcq msq := fun sz => vxMet_pre (h sz) fun _ _ => gPre_up
end UP
def wI (ZZ : (Nat → Prop) → State → Heap → Prop) (D : va_G) (tys : List (ClassId × FieldType)) (l : Launch) (y : MethodName) (ws : List Cond) (rm : Room) {S : Type} (Wf : S → va_W) (av : List Value) (σ : S) (r : Int32) (σ' : S) (mcq msq : Nat) : Prop := ∀ sz : Nat, Met l y ws rm (va_Pc av (gPre ZZ D tys (Wf σ) sz)) (va_Qi (fun (r' : Int32) (u : S) => r' = r ∧ u = σ') (gAt D tys Wf (va_A (Wf σ) sz)) (va_A (Wf σ) sz)) mcq msq (va_A (Wf σ) sz)
abbrev lIe {S : Type} (Wf : S → va_W) (D : va_G) (tys : List (ClassId × FieldType)) (B : Nat → Prop) (below : List Frame) (args : Array Value) (s : State) (r : Int32) (σ' : S) (mcq msq : Nat) : State → Prop := MQ below (va_Qi (fun (r' : Int32) (u : S) => r' = r ∧ u = σ') (gAt D tys Wf B) B) args s mcq msq B
def wL (ZZ : (Nat → Prop) → State → Heap → Prop) (D : va_G) (tys : List (ClassId × FieldType)) (l : Launch) (y : MethodName) (ws : List Cond) (rm : Room) {S : Type} (Wf : S → va_W) (av : List Value) (σ : S) (r : Int64) (σ' : S) (mcq msq : Nat) : Prop := ∀ sz : Nat, Met l y ws rm (va_Pc av (gPre ZZ D tys (Wf σ) sz)) (va_Ql (fun (r' : Int64) (u : S) => r' = r ∧ u = σ') (gAt D tys Wf (va_A (Wf σ) sz)) (va_A (Wf σ) sz)) mcq msq (va_A (Wf σ) sz)
abbrev lLe {S : Type} (Wf : S → va_W) (D : va_G) (tys : List (ClassId × FieldType)) (B : Nat → Prop) (below : List Frame) (args : Array Value) (s : State) (r : Int64) (σ' : S) (mcq msq : Nat) : State → Prop := MQ below (va_Ql (fun (r' : Int64) (u : S) => r' = r ∧ u = σ') (gAt D tys Wf B) B) args s mcq msq B
def wV (ZZ : (Nat → Prop) → State → Heap → Prop) (D : va_G) (tys : List (ClassId × FieldType)) (l : Launch) (y : MethodName) (ws : List Cond) (rm : Room) {S : Type} (Wf : S → va_W) (av : List Value) (σ : S) (σ' : S) (mcq msq : Nat) : Prop := ∀ sz : Nat, Met l y ws rm (va_Pc av (gPre ZZ D tys (Wf σ) sz)) (va_Qv (fun (u : S) => u = σ') (gAt D tys Wf (va_A (Wf σ) sz)) (va_A (Wf σ) sz)) mcq msq (va_A (Wf σ) sz)
abbrev lVe {S : Type} (Wf : S → va_W) (D : va_G) (tys : List (ClassId × FieldType)) (B : Nat → Prop) (below : List Frame) (args : Array Value) (s : State) (σ' : S) (mcq msq : Nat) : State → Prop := MQ below (va_Qv (fun (u : S) => u = σ') (gAt D tys Wf B) B) args s mcq msq B
section BH
variable {ZZ : (Nat → Prop) → State → Heap → Prop} {D : va_G} {tys : List (ClassId × FieldType)} {l : Launch} {y : MethodName} {ws ws' : List Cond} {rm : Room} {S : Type} {Wf : S → va_W} {av : List Value} {σ σ' : S} {cc : ByteArray} {maxL : Nat} {ret : Option FieldType}
theorem wI_of {r : Int32} {mcq msq : Nat} (hy : plainName y.cls = true) (hw : ws = Cond.code y cc maxL ret :: ws') (hlen : (lg_sl av).length ≤ maxL)
    (body : ∀ (p : Program) (e : Env) (s : State) (m : MethodId) (args : Array Value) (below : List Frame) (meth : Method) (c : Code) (A : Nat → Prop), gC ZZ p s m args meth c D tys A cc ws y.cls maxL ret → gG p l e rm s m args below meth c D tys A maxL (lIe Wf D tys A below args s r σ' mcq msq) (Wf σ) 0 0 0 (lv_args 0 av) []) : wI ZZ D tys l y ws rm Wf av σ r σ' mcq msq := by
  intro sz
  refine Met.ofW (cc := cc) (maxL := maxL) (ret := ret) hy hw ?_
  intro p e s m args below meth c s₁ B hml hv
  have hsz : s.heap.size = sz := hv.2.1
  subst hsz
  exact gBody hw hlen B hml hv rfl (body p e s m args below meth c _)
theorem wL_of {r : Int64} {mcq msq : Nat} (hy : plainName y.cls = true) (hw : ws = Cond.code y cc maxL ret :: ws') (hlen : (lg_sl av).length ≤ maxL)
    (body : ∀ (p : Program) (e : Env) (s : State) (m : MethodId) (args : Array Value) (below : List Frame) (meth : Method) (c : Code) (A : Nat → Prop), gC ZZ p s m args meth c D tys A cc ws y.cls maxL ret → gG p l e rm s m args below meth c D tys A maxL (lLe Wf D tys A below args s r σ' mcq msq) (Wf σ) 0 0 0 (lv_args 0 av) []) : wL ZZ D tys l y ws rm Wf av σ r σ' mcq msq := by
  intro sz
  refine Met.ofW (cc := cc) (maxL := maxL) (ret := ret) hy hw ?_
  intro p e s m args below meth c s₁ B hml hv
  have hsz : s.heap.size = sz := hv.2.1
  subst hsz
  exact gBody hw hlen B hml hv rfl (body p e s m args below meth c _)
theorem wV_of {mcq msq : Nat} (hy : plainName y.cls = true) (hw : ws = Cond.code y cc maxL ret :: ws') (hlen : (lg_sl av).length ≤ maxL)
    (body : ∀ (p : Program) (e : Env) (s : State) (m : MethodId) (args : Array Value) (below : List Frame) (meth : Method) (c : Code) (A : Nat → Prop), gC ZZ p s m args meth c D tys A cc ws y.cls maxL ret → gG p l e rm s m args below meth c D tys A maxL (lVe Wf D tys A below args s σ' mcq msq) (Wf σ) 0 0 0 (lv_args 0 av) []) : wV ZZ D tys l y ws rm Wf av σ σ' mcq msq := by
  intro sz
  refine Met.ofW (cc := cc) (maxL := maxL) (ret := ret) hy hw ?_
  intro p e s m args below meth c s₁ B hml hv
  have hsz : s.heap.size = sz := hv.2.1
  subst hsz
  exact gBody hw hlen B hml hv rfl (body p e s m args below meth c _)
theorem wIT_of {r : Int32} {mcq msq : Nat} {hh : List (Nat × Nat × Nat × Nat)} (hy : plainName y.cls = true) (hw : ws = Cond.codeWith y cc maxL ret hh :: ws') (hlen : (lg_sl av).length ≤ maxL)
    (body : ∀ (p : Program) (e : Env) (s : State) (m : MethodId) (args : Array Value) (below : List Frame) (meth : Method) (c : Code) (A : Nat → Prop), gC ZZ p s m args meth c D tys A cc ws y.cls maxL ret → c.exceptionTable.toList = tableOf hh → gG p l e rm s m args below meth c D tys A maxL (lIe Wf D tys A below args s r σ' mcq msq) (Wf σ) 0 0 0 (lv_args 0 av) []) : wI ZZ D tys l y ws rm Wf av σ r σ' mcq msq := by
  intro sz
  refine MetFree.of_bodyS (code := cc) (maxLocals := maxL) (ret := ret) hy ?_ ?_
  · intro args s m h hn
    obtain ⟨m9, meth, c, hn9, h1, h2, h3, h4, -, h5, h6, -⟩ := Cond.codeWith_spec (atoms_spec (ws := ws) h _ (by rw [hw]; exact List.mem_cons_self))
    cases hn.symm.trans hn9
    exact ⟨meth, c, h1, h2, h3, h4, h5, h6⟩
  · intro p e s m args below meth c s₁ B hml0 hv _
    have hts := atoms_spec (ws := ws) B.pre
    have hcw : (Cond.codeWith y cc maxL ret hh).before args s = true := hts _ (by rw [hw]; exact List.mem_cons_self)
    have hml : c.maxLocals = maxL := by
      obtain ⟨m9, meth9, c9, hn9, h1, h2, -, h4, -⟩ := Cond.codeWith_spec hcw
      exact hml0
    obtain ⟨rfl, hsz, hP, hK, hD0, hZ⟩ := hv
    subst hsz
    have hown : s.vm.findClass y.cls = some m.cls := findClass_of_methodNamed B.named
    have hD := hD0.self (sz := s.heap.size)
    have hl := lv_entry av (n := maxL) hlen
    have hh0 : s₁.heap = s.heap := by rw [B.state]; rfl
    have K := body p e s m av.toArray below meth c (va_A (Wf σ) s.heap.size) ⟨⟨B.exec, B.bytes, hml, hown, hts⟩, hK, fun q h => Or.inr h, hZ, B.returns, B.notSynchronized⟩ (vx_table (x := y) B hcw) s.heap [] _ hP hD va_S.rf hl
    rw [← lg_entry_eq] at K
    obtain ⟨t, a1, o, b1, b2, b3⟩ := K s₁ hh0 (Stand.of_body B)
    exact ⟨t, o, a1, b1, b2, ⟨b3.1, b3.2⟩⟩
theorem wLT_of {r : Int64} {mcq msq : Nat} {hh : List (Nat × Nat × Nat × Nat)} (hy : plainName y.cls = true) (hw : ws = Cond.codeWith y cc maxL ret hh :: ws') (hlen : (lg_sl av).length ≤ maxL)
    (body : ∀ (p : Program) (e : Env) (s : State) (m : MethodId) (args : Array Value) (below : List Frame) (meth : Method) (c : Code) (A : Nat → Prop), gC ZZ p s m args meth c D tys A cc ws y.cls maxL ret → c.exceptionTable.toList = tableOf hh → gG p l e rm s m args below meth c D tys A maxL (lLe Wf D tys A below args s r σ' mcq msq) (Wf σ) 0 0 0 (lv_args 0 av) []) : wL ZZ D tys l y ws rm Wf av σ r σ' mcq msq := by
  intro sz
  refine MetFree.of_bodyS (code := cc) (maxLocals := maxL) (ret := ret) hy ?_ ?_
  · intro args s m h hn
    obtain ⟨m9, meth, c, hn9, h1, h2, h3, h4, -, h5, h6, -⟩ := Cond.codeWith_spec (atoms_spec (ws := ws) h _ (by rw [hw]; exact List.mem_cons_self))
    cases hn.symm.trans hn9
    exact ⟨meth, c, h1, h2, h3, h4, h5, h6⟩
  · intro p e s m args below meth c s₁ B hml0 hv _
    have hts := atoms_spec (ws := ws) B.pre
    have hcw : (Cond.codeWith y cc maxL ret hh).before args s = true := hts _ (by rw [hw]; exact List.mem_cons_self)
    have hml : c.maxLocals = maxL := by
      obtain ⟨m9, meth9, c9, hn9, h1, h2, -, h4, -⟩ := Cond.codeWith_spec hcw
      exact hml0
    obtain ⟨rfl, hsz, hP, hK, hD0, hZ⟩ := hv
    subst hsz
    have hown : s.vm.findClass y.cls = some m.cls := findClass_of_methodNamed B.named
    have hD := hD0.self (sz := s.heap.size)
    have hl := lv_entry av (n := maxL) hlen
    have hh0 : s₁.heap = s.heap := by rw [B.state]; rfl
    have K := body p e s m av.toArray below meth c (va_A (Wf σ) s.heap.size) ⟨⟨B.exec, B.bytes, hml, hown, hts⟩, hK, fun q h => Or.inr h, hZ, B.returns, B.notSynchronized⟩ (vx_table (x := y) B hcw) s.heap [] _ hP hD va_S.rf hl
    rw [← lg_entry_eq] at K
    obtain ⟨t, a1, o, b1, b2, b3⟩ := K s₁ hh0 (Stand.of_body B)
    exact ⟨t, o, a1, b1, b2, ⟨b3.1, b3.2⟩⟩
end BH
section CL
variable {p : Program} {l : Launch} {e : Env} {R : Room} {s : State} {m : MethodId} {args : Array Value} {below : List Frame} {meth : Method} {c : Code} {D : va_G} {tys : List (ClassId × FieldType)} {A : Nat → Prop} {nL : Nat} {Q : State → Prop} {cc : ByteArray} {Ts : List Cond} {own : String} {ret : Option FieldType} {ZZ : (Nat → Prop) → State → Heap → Prop}
variable {k n pc : Nat} {lv : List (Nat × Value)} {st st0 : List Value} {AD : Nat → Nat} {E : St → Nat → va_E} {L : List Nat} {X9 : va_W} {σ σ' : St} {ws ws9 : va_W}
variable {y2 : MethodName} {ws2 : List Cond} {rm2 : Room} {bytes : ByteArray} {maxL2 index nA : Nat} {ret2 : Option FieldType} {C : String} {T : u_T} {N ci j : Nat} {fs : List Value} {As : List Value} {mcq msq : Nat} {k' n' : Nat}
theorem h_callI (X : gC ZZ p s m args meth c D tys A cc Ts own nL ret) (hzz : gZ ZZ) {S : Type} {Wf : S → va_W} {u u' : S} {r : Int32} (hMm : wI ZZ D tys l y2 ws2 rm2 Wf As u r u' mcq msq) (cw : CallB R s args own index y2 bytes maxL2 ret2 ws2 rm2 mcq msq nA ∧ (Cond.static y2).before args s = true) (hst : st0 = As.reverse ++ st) (hn : As.length = nA) (hcat : (st.map fun v => v.category).sum ≤ 8) (hkn : k + mcq ≤ R.cells ∧ n + msq ≤ R.slots) (hdg : decode cc pc = .ok (.invokestatic index, 3)) (hu : Wf u = ws) (hu' : Wf u' = ws9) (hk : k + mcq ≤ k') (hn' : n + msq ≤ n')
    (kk : gG p l e R s m args below meth c D tys A nL Q ws9 k' n' (pc + 3) lv (.int r :: st)) : gG p l e R s m args below meth c D tys A nL Q ws k n pc lv st0 := by
  subst hst hu hu'
  intro H locs ls hP hD hSs hl0
  have hF := (gPre_of (av := []) hzz X.2.1 X.2.2.1 X.2.2.2.1 hP hD hSs).1
  refine va_calli (va_runS X.1 (hMm H.size) cw ⟨gPre_blind hzz, (gPre_of hzz X.2.1 X.2.2.1 X.2.2.2.1 hP hD hSs).2⟩ rfl hn hl0.1 rfl (lv_room hcat) hdg hkn) hSs (fun q _ h => hF q h) hF (fun r1 u1 t H1 locs1 ht hvm hw hBb hz1 hk1 hS1 => ?_)
  obtain ⟨rfl, rfl⟩ := hw
  obtain ⟨hP1, -, hD1⟩ := hBb
  rw [ht] at hP1
  exact W.widen hk hn' (kk H1 locs1 ls hP1 (hD1.weaken (fun k9 qz9 h9 _ => hF _ (hD1.2 k9 qz9 h9))) hS1 hl0)
theorem h_callIT (X : gC ZZ p s m args meth c D tys A cc Ts own nL ret) (hzz : gZ ZZ) {S : Type} {Wf : S → va_W} {u u' : S} {r : Int32} {hh : List (Nat × Nat × Nat × Nat)} (hMm : wI ZZ D tys l y2 ws2 rm2 Wf As u r u' mcq msq) (cw : vx_CSW R s args own index y2 bytes maxL2 ret2 hh ws2 rm2 mcq msq nA) (hst : st0 = As.reverse ++ st) (hn : As.length = nA) (hcat : (st.map fun v => v.category).sum ≤ 8) (hkn : k + mcq ≤ R.cells ∧ n + msq ≤ R.slots) (hdg : decode cc pc = .ok (.invokestatic index, 3)) (hu : Wf u = ws) (hu' : Wf u' = ws9) (hk : k + mcq ≤ k') (hn' : n + msq ≤ n')
    (kk : gG p l e R s m args below meth c D tys A nL Q ws9 k' n' (pc + 3) lv (.int r :: st)) : gG p l e R s m args below meth c D tys A nL Q ws k n pc lv st0 := by
  subst hst hu hu'
  intro H locs ls hP hD hSs hl0
  have hF := (gPre_of (av := []) hzz X.2.1 X.2.2.1 X.2.2.2.1 hP hD hSs).1
  refine va_calli (vx_runSW X.1 (hMm H.size) cw ⟨gPre_blind hzz, (gPre_of hzz X.2.1 X.2.2.1 X.2.2.2.1 hP hD hSs).2⟩ rfl hn hl0.1 rfl (lv_room hcat) hdg hkn) hSs (fun q _ h => hF q h) hF (fun r1 u1 t H1 locs1 ht hvm hw hBb hz1 hk1 hS1 => ?_)
  obtain ⟨rfl, rfl⟩ := hw
  obtain ⟨hP1, -, hD1⟩ := hBb
  rw [ht] at hP1
  exact W.widen hk hn' (kk H1 locs1 ls hP1 (hD1.weaken (fun k9 qz9 h9 _ => hF _ (hD1.2 k9 qz9 h9))) hS1 hl0)
theorem h_callL (X : gC ZZ p s m args meth c D tys A cc Ts own nL ret) (hzz : gZ ZZ) {S : Type} {Wf : S → va_W} {u u' : S} {r : Int64} (hMm : wL ZZ D tys l y2 ws2 rm2 Wf As u r u' mcq msq) (cw : CallB R s args own index y2 bytes maxL2 ret2 ws2 rm2 mcq msq nA ∧ (Cond.static y2).before args s = true) (hst : st0 = As.reverse ++ st) (hn : As.length = nA) (hcat : (st.map fun v => v.category).sum ≤ 8) (hkn : k + mcq ≤ R.cells ∧ n + msq ≤ R.slots) (hdg : decode cc pc = .ok (.invokestatic index, 3)) (hu : Wf u = ws) (hu' : Wf u' = ws9) (hk : k + mcq ≤ k') (hn' : n + msq ≤ n')
    (kk : gG p l e R s m args below meth c D tys A nL Q ws9 k' n' (pc + 3) lv (.long r :: st)) : gG p l e R s m args below meth c D tys A nL Q ws k n pc lv st0 := by
  subst hst hu hu'
  intro H locs ls hP hD hSs hl0
  have hF := (gPre_of (av := []) hzz X.2.1 X.2.2.1 X.2.2.2.1 hP hD hSs).1
  refine va_calll (va_runS X.1 (hMm H.size) cw ⟨gPre_blind hzz, (gPre_of hzz X.2.1 X.2.2.1 X.2.2.2.1 hP hD hSs).2⟩ rfl hn hl0.1 rfl (lv_room hcat) hdg hkn) hSs (fun q _ h => hF q h) hF (fun r1 u1 t H1 locs1 ht hvm hw hBb hz1 hk1 hS1 => ?_)
  obtain ⟨rfl, rfl⟩ := hw
  obtain ⟨hP1, -, hD1⟩ := hBb
  rw [ht] at hP1
  exact W.widen hk hn' (kk H1 locs1 ls hP1 (hD1.weaken (fun k9 qz9 h9 _ => hF _ (hD1.2 k9 qz9 h9))) hS1 hl0)
theorem h_callLT (X : gC ZZ p s m args meth c D tys A cc Ts own nL ret) (hzz : gZ ZZ) {S : Type} {Wf : S → va_W} {u u' : S} {r : Int64} {hh : List (Nat × Nat × Nat × Nat)} (hMm : wL ZZ D tys l y2 ws2 rm2 Wf As u r u' mcq msq) (cw : vx_CSW R s args own index y2 bytes maxL2 ret2 hh ws2 rm2 mcq msq nA) (hst : st0 = As.reverse ++ st) (hn : As.length = nA) (hcat : (st.map fun v => v.category).sum ≤ 8) (hkn : k + mcq ≤ R.cells ∧ n + msq ≤ R.slots) (hdg : decode cc pc = .ok (.invokestatic index, 3)) (hu : Wf u = ws) (hu' : Wf u' = ws9) (hk : k + mcq ≤ k') (hn' : n + msq ≤ n')
    (kk : gG p l e R s m args below meth c D tys A nL Q ws9 k' n' (pc + 3) lv (.long r :: st)) : gG p l e R s m args below meth c D tys A nL Q ws k n pc lv st0 := by
  subst hst hu hu'
  intro H locs ls hP hD hSs hl0
  have hF := (gPre_of (av := []) hzz X.2.1 X.2.2.1 X.2.2.2.1 hP hD hSs).1
  refine va_calll (vx_runSW X.1 (hMm H.size) cw ⟨gPre_blind hzz, (gPre_of hzz X.2.1 X.2.2.1 X.2.2.2.1 hP hD hSs).2⟩ rfl hn hl0.1 rfl (lv_room hcat) hdg hkn) hSs (fun q _ h => hF q h) hF (fun r1 u1 t H1 locs1 ht hvm hw hBb hz1 hk1 hS1 => ?_)
  obtain ⟨rfl, rfl⟩ := hw
  obtain ⟨hP1, -, hD1⟩ := hBb
  rw [ht] at hP1
  exact W.widen hk hn' (kk H1 locs1 ls hP1 (hD1.weaken (fun k9 qz9 h9 _ => hF _ (hD1.2 k9 qz9 h9))) hS1 hl0)
theorem h_callV (X : gC ZZ p s m args meth c D tys A cc Ts own nL ret) (hzz : gZ ZZ) {S : Type} {Wf : S → va_W} {u u' : S} (hMm : wV ZZ D tys l y2 ws2 rm2 Wf As u u' mcq msq) (cw : CallB R s args own index y2 bytes maxL2 ret2 ws2 rm2 mcq msq nA ∧ (Cond.static y2).before args s = true) (hst : st0 = As.reverse ++ st) (hn : As.length = nA) (hcat : (st.map fun v => v.category).sum ≤ 8) (hkn : k + mcq ≤ R.cells ∧ n + msq ≤ R.slots) (hdg : decode cc pc = .ok (.invokestatic index, 3)) (hu : Wf u = ws) (hu' : Wf u' = ws9) (hk : k + mcq ≤ k') (hn' : n + msq ≤ n')
    (kk : gG p l e R s m args below meth c D tys A nL Q ws9 k' n' (pc + 3) lv st) : gG p l e R s m args below meth c D tys A nL Q ws k n pc lv st0 := by
  subst hst hu hu'
  intro H locs ls hP hD hSs hl0
  have hF := (gPre_of (av := []) hzz X.2.1 X.2.2.1 X.2.2.2.1 hP hD hSs).1
  refine va_callv (va_runS X.1 (hMm H.size) cw ⟨gPre_blind hzz, (gPre_of hzz X.2.1 X.2.2.1 X.2.2.2.1 hP hD hSs).2⟩ rfl hn hl0.1 rfl (lv_room hcat) hdg hkn) hSs (fun q _ h => hF q h) hF (fun u1 t H1 locs1 ht hvm hw hBb hz1 hk1 hS1 => ?_)
  subst hw
  obtain ⟨hP1, -, hD1⟩ := hBb
  rw [ht] at hP1
  exact W.widen hk hn' (kk H1 locs1 ls hP1 (hD1.weaken (fun k9 qz9 h9 _ => hF _ (hD1.2 k9 qz9 h9))) hS1 hl0)
theorem h_callVT (X : gC ZZ p s m args meth c D tys A cc Ts own nL ret) (hzz : gZ ZZ) {S : Type} {Wf : S → va_W} {u u' : S} {hh : List (Nat × Nat × Nat × Nat)} (hMm : wV ZZ D tys l y2 ws2 rm2 Wf As u u' mcq msq) (cw : vx_CSW R s args own index y2 bytes maxL2 ret2 hh ws2 rm2 mcq msq nA) (hst : st0 = As.reverse ++ st) (hn : As.length = nA) (hcat : (st.map fun v => v.category).sum ≤ 8) (hkn : k + mcq ≤ R.cells ∧ n + msq ≤ R.slots) (hdg : decode cc pc = .ok (.invokestatic index, 3)) (hu : Wf u = ws) (hu' : Wf u' = ws9) (hk : k + mcq ≤ k') (hn' : n + msq ≤ n')
    (kk : gG p l e R s m args below meth c D tys A nL Q ws9 k' n' (pc + 3) lv st) : gG p l e R s m args below meth c D tys A nL Q ws k n pc lv st0 := by
  subst hst hu hu'
  intro H locs ls hP hD hSs hl0
  have hF := (gPre_of (av := []) hzz X.2.1 X.2.2.1 X.2.2.2.1 hP hD hSs).1
  refine va_callv (vx_runSW X.1 (hMm H.size) cw ⟨gPre_blind hzz, (gPre_of hzz X.2.1 X.2.2.1 X.2.2.2.1 hP hD hSs).2⟩ rfl hn hl0.1 rfl (lv_room hcat) hdg hkn) hSs (fun q _ h => hF q h) hF (fun u1 t H1 locs1 ht hvm hw hBb hz1 hk1 hS1 => ?_)
  subst hw
  obtain ⟨hP1, -, hD1⟩ := hBb
  rw [ht] at hP1
  exact W.widen hk hn' (kk H1 locs1 ls hP1 (hD1.weaken (fun k9 qz9 h9 _ => hF _ (hD1.2 k9 qz9 h9))) hS1 hl0)
end CL
theorem vaP_mem {D : va_G} {cl : List vw_C} {ws ws' : va_W} {H : Heap} (h : va_P D cl ws H) (hmy : ∀ q ∈ ws', q ∈ ws) : va_P D cl ws' H := fun k q hk => by
  obtain ⟨j, hj⟩ := List.getElem?_of_mem (hmy q (List.mem_of_getElem? hk))
  exact h j q hj
theorem vaD_iff {A : Nat → Prop} {ws : va_W} : va_D A ws ↔ ((ws.map (·.1)).Nodup ∧ ∀ q ∈ ws, A q.1) := by
  constructor
  · intro h
    refine ⟨List.pairwise_iff_getElem.mpr fun i j hi hj hij e => ?_, fun q hq => ?_⟩
    · rw [List.getElem_map, List.getElem_map] at e
      rw [List.length_map] at hi hj
      have := h.1 i j _ _ (List.getElem?_eq_getElem hi) (List.getElem?_eq_getElem hj) e
      omega
    · obtain ⟨j, hj⟩ := List.getElem?_of_mem hq
      exact h.2 j q hj
  · intro h
    refine ⟨fun i j a b hi hj e => ?_, fun k q hk => h.2 q (List.mem_of_getElem? hk)⟩
    obtain ⟨hi1, rfl⟩ := List.getElem?_eq_some_iff.mp hi
    obtain ⟨hj1, rfl⟩ := List.getElem?_eq_some_iff.mp hj
    rcases Nat.lt_trichotomy i j with q | q | q
    · exact absurd (by rw [List.getElem_map, List.getElem_map]; exact e) (List.pairwise_iff_getElem.mp h.1 i j (by rw [List.length_map]; exact hi1) (by rw [List.length_map]; exact hj1) q)
    · exact q
    · exact absurd (by rw [List.getElem_map, List.getElem_map]; exact e.symm) (List.pairwise_iff_getElem.mp h.1 j i (by rw [List.length_map]; exact hj1) (by rw [List.length_map]; exact hi1) q)
theorem vaD_perm {A : Nat → Prop} {ws ws' : va_W} (h : va_D A ws) (hp : ws.Perm ws') : va_D A ws' := by
  obtain ⟨h1, h2⟩ := vaD_iff.mp h
  exact vaD_iff.mpr ⟨(hp.map _).nodup h1, fun q hq => h2 q (hp.mem_iff.mpr hq)⟩
section PM
variable {p : Program} {l : Launch} {e : Env} {R : Room} {s : State} {m : MethodId} {args : Array Value} {below : List Frame} {meth : Method} {c : Code} {D : va_G} {tys : List (ClassId × FieldType)} {A : Nat → Prop} {nL : Nat} {Q : State → Prop}
variable {ws ws9 : va_W} {k n pc : Nat} {lv : List (Nat × Value)} {st : List Value}
theorem g_perm (hp : ws.Perm ws9) (kk : gG p l e R s m args below meth c D tys A nL Q ws9 k n pc lv st) : gG p l e R s m args below meth c D tys A nL Q ws k n pc lv st := fun H locs ls hP hD hSs hl => kk H locs ls (vaP_mem hP fun q hq => hp.mem_iff.mpr hq) (vaD_perm hD hp) hSs hl
end PM
theorem pass_of {pre : List ExceptionTableEntry} {pc : Nat} {S9 : List (Nat × String)} {own E0 : String} {args : Array Value} {s : State} (h : pre.all (fun z => !covers z pc || S9.any (fun q => z.catchType == q.1)) = true) (hS9 : ∀ q ∈ S9, q.1 ≠ 0 ∧ (Cond.classLink own q.1 q.2).before args s = true ∧ va_Nc E0 q.2 s) : ∀ z ∈ pre, covers z pc = false ∨ (z.catchType ≠ 0 ∧ ∃ nm : String, (Cond.classLink own z.catchType nm).before args s = true ∧ va_Nc E0 nm s) := by
  intro z hz
  rcases Bool.or_eq_true_iff.mp (List.all_eq_true.mp h z hz) with q | q
  · refine Or.inl ?_
    simp at q ⊢
    omega
  · obtain ⟨x, hx, e9⟩ := List.any_eq_true.mp q
    obtain ⟨a1, a2, a3⟩ := hS9 x hx
    have e8 : z.catchType = x.1 := by simpa using e9
    exact Or.inr ⟨by rw [e8]; exact a1, x.2, by rw [e8]; exact a2, a3⟩
section CL
variable {p : Program} {l : Launch} {e : Env} {R : Room} {s : State} {m : MethodId} {args : Array Value} {below : List Frame} {meth : Method} {c : Code} {D : va_G} {tys : List (ClassId × FieldType)} {A : Nat → Prop} {nL : Nat} {Q : State → Prop} {cc : ByteArray} {Ts : List Cond} {own : String} {ret : Option FieldType} {ZZ : (Nat → Prop) → State → Heap → Prop}
variable {k n pc : Nat} {lv : List (Nat × Value)} {st st0 : List Value} {AD : Nat → Nat} {E : St → Nat → va_E} {L : List Nat} {X9 : va_W} {σ σ' : St} {ws ws9 : va_W}
variable {y2 : MethodName} {ws2 : List Cond} {rm2 : Room} {bytes : ByteArray} {maxL2 index nA : Nat} {ret2 : Option FieldType} {C : String} {T : u_T} {N ci j : Nat} {fs : List Value} {As : List Value} {mcq msq : Nat} {k' n' : Nat}
theorem g_xVI_cat (X : gC ZZ p s m args meth c D tys A cc Ts own nL ret) (hzz : gZ ZZ) {E0 name : String} (hMm : xI ZZ D tys l y2 ws2 rm2 (wF AD E L X9) (.ref (AD j) :: As) σ (.inl E0) σ' mcq msq) (cw : CallW R s args own C index y2 bytes maxL2 ret2 ws2 rm2 mcq msq nA) (hst : st0 = As.reverse ++ .ref (AD j) :: st) (hj : j ∈ L) (he : E σ j = .inr (ci, fs)) (hcq : vwCl[ci]? = some (C, T, N)) (hn : As.length = nA) (hcat : (st.map fun v => v.category).sum ≤ 8) (hkn : k + mcq ≤ R.cells ∧ n + msq ≤ R.slots) (hdg : decode cc pc = .ok (.invokevirtual index, 3)) (hk : k + mcq ≤ k') (hn' : n + msq ≤ n')
    (pre : List ExceptionTableEntry) (x : ExceptionTableEntry) (suf : List ExceptionTableEntry) (hsplit : c.exceptionTable.toList = pre ++ x :: suf) (hpass : ∀ z ∈ pre, covers z pc = false ∨ (z.catchType ≠ 0 ∧ ∃ nm : String, (Cond.classLink own z.catchType nm).before args s = true ∧ va_Nc E0 nm s)) (hx : covers x pc = true) (h0 : x.catchType ≠ 0) (hlink : (Cond.classLink own x.catchType name).before args s = true) (hcast : (Cond.castable E0 name).before args s = true)
    (kk : ∀ qz9 : Nat, gG p l e R s m args below meth c D tys A nL Q (wF AD E L X9 σ') k' n' x.handlerPc lv [.ref qz9]) : gG p l e R s m args below meth c D tys A nL Q (wF AD E L X9 σ) k n pc lv st0 := by
  subst hst
  intro H locs ls hP hD hSs hl0
  obtain ⟨q, hq⟩ := wF_get (A := AD) (E := E) (X := X9) (σ := σ) hj
  rw [he] at hq
  have hF := (gPre_of (av := []) hzz X.2.1 X.2.2.1 X.2.2.2.1 hP hD hSs).1
  refine vx_calli (vx_runV X.1 (hMm H.size) cw ⟨gPre_blind hzz, va_recv X.2.1 hP hcq hq, (gPre_of hzz X.2.1 X.2.2.1 X.2.2.2.1 hP hD hSs).2⟩ rfl hn hl0.1 rfl (lv_room hcat) hdg hkn) hSs (fun q _ h => hF q h) hF (fun q _ h => hF q h) (fun E9 ce qz9 u t H1 locs1 ht hvm hpx hBb hz hk1 hS1 hce hcv hcl => ?_) (fun r1 u1 t H1 locs1 ht hvm hw hBb hz1 hk1 hS1 => ?_)
  · subst hpx
    obtain ⟨he9, hP1, -, hD1⟩ := hBb
    rw [ht] at hP1
    have he8 : E9 = E0 := Sum.inl.inj he9
    subst he8
    exact vx_catch X.1.2.2.2.1 pre x suf hsplit hpass hx h0 hlink hcast hce hcv hcl (W.widen hk hn' (kk qz9 H1 locs1 ls hP1 (hD1.weaken (fun k9 qz9 h9 _ => hF _ (hD1.2 k9 qz9 h9))) hS1 hl0))
  · exact nomatch hw.1
end CL
/-! the law's things: 0 its draws' cell, 1 2 3 the outer arrays of its grids, 4 + 3 g + w the grid's row w, 13 isTaken -/
def lL : List Nat := List.range 14
theorem mem_lL {j : Nat} : j ∈ lL ↔ j < 14 := List.mem_range
def lE (cy : Nat → ClassId) (B : Nat → Nat) (ρ : St) (j : Nat) : va_E :=
  if j = 0 then .inl (cy 0, 1, .inl (gr ρ 0)) else if j < 4 then .inl (cy 5, 3, .inr (.inr (.inr (.inr (fun i => if i < 3 then some (B (3 * j + 1 + i)) else none))))) else if j = 13 then .inl (cy 2, 3200, .inl (gr ρ 13)) else .inl (cy 0, 3200, .inl (gr ρ j))
abbrev lW (cy : Nat → ClassId) (A aK : Nat → Nat) (B : Nat → Nat) (X8 : va_W) (σ ρ : St) : va_W := cW cy A aK (wF B (lE cy B) lL X8 ρ) σ
abbrev lWf (cy : Nat → ClassId) (A aK : Nat → Nat) (B : Nat → Nat) (X8 : va_W) : St × St → va_W := fun u => lW cy A aK B X8 u.1 u.2
def isGr (j : Nat) : Prop := 4 ≤ j ∧ j < 13
theorem isGr.mk {g k9 : Nat} (hg : g < 3) (hk : k9 < 3) : isGr (4 + 3 * g + k9) := ⟨by omega, by omega⟩
theorem inR0 {i : Int32} {n : Nat} (h : ¬ (i < 0 ∨ n ≤ i.toNatClampNeg)) : ¬ i < 0 := fun z => h (Or.inl z)
section LE
variable (cy : Nat → ClassId) (B : Nat → Nat) (ρ : St)
theorem lE_0 : lE cy B ρ 0 = .inl (cy 0, 1, .inl (gr ρ 0)) := rfl
theorem lE_g {g : Nat} (hg : g < 3) : lE cy B ρ (1 + g) = .inl (cy 5, 3, .inr (.inr (.inr (.inr (fun i => if i < 3 then some (B (3 * (1 + g) + 1 + i)) else none))))) := by
  unfold lE
  rw [if_neg (by omega), if_pos (by omega)]
theorem lE_13 : lE cy B ρ 13 = .inl (cy 2, 3200, .inl (gr ρ 13)) := rfl
theorem lE_r {j : Nat} (h : isGr j) : lE cy B ρ j = .inl (cy 0, 3200, .inl (gr ρ j)) := by
  obtain ⟨h1, h2⟩ := h
  unfold lE
  rw [if_neg (by omega), if_neg (by omega), if_neg (by omega)]
theorem lE_sr {j : Nat} {f : Nat → Int32} {e : va_E} (he : lE cy B (sr ρ j f) j = e) : ∀ i ∈ lL, lE cy B (sr ρ j f) i = if i = j then e else lE cy B ρ i := by
  intro i _
  by_cases h : i = j
  · rw [if_pos h, h]; exact he
  · rw [if_neg h]
    unfold lE
    by_cases h0 : i = 0
    · subst h0; rw [if_pos rfl, if_pos rfl, gr_sr, if_neg h]
    · rw [if_neg h0, if_neg h0]
      by_cases h4 : i < 4
      · rw [if_pos h4, if_pos h4]
      · rw [if_neg h4, if_neg h4]
        by_cases h13 : i = 13
        · subst h13; rw [if_pos rfl, if_pos rfl, gr_sr, if_neg h]
        · rw [if_neg h13, if_neg h13, gr_sr, if_neg h]
end LE
/-- places behind a head -/
theorem wF_get2 {P : va_W} {A : Nat → Nat} {E : St → Nat → va_E} {L : List Nat} {X : va_W} {σ : St} {j : Nat} (hj : j ∈ L) : ∃ k : Nat, (P ++ wF A E L X σ)[k]? = some (A j, E σ j) := by
  have h : (A j, E σ j) ∈ P ++ wF A E L X σ := List.mem_append_right _ (List.mem_append_left _ (List.mem_map.mpr ⟨j, hj, rfl⟩))
  exact List.getElem?_of_mem h
theorem wF_at2 {P : va_W} {B : Nat → Prop} {A : Nat → Nat} {E : St → Nat → va_E} {L : List Nat} {X : va_W} {σ : St} (hD : va_D B (P ++ wF A E L X σ)) {j : Nat} (hj : j ∈ L) :
    ∃ k : Nat, (P ++ wF A E L X σ)[k]? = some (A j, E σ j) ∧ ∀ (e : va_E) (σ' : St), (∀ i ∈ L, E σ' i = if i = j then e else E σ i) → (P ++ wF A E L X σ).set k (A j, e) = P ++ wF A E L X σ' := by
  have hD2 : va_D B (wF A E L X σ) := vaD_iff.mpr ⟨by
    have := (vaD_iff.mp hD).1
    rw [List.map_append] at this
    exact (List.nodup_append.mp this).2.1, fun q hq => (vaD_iff.mp hD).2 q (List.mem_append_right _ hq)⟩
  obtain ⟨k, h1, h2⟩ := wF_at hD2 hj
  refine ⟨P.length + k, ?_, fun e σ' hE => ?_⟩
  · rw [List.getElem?_append_right (Nat.le_add_right _ _), Nat.add_sub_cancel_left]; exact h1
  · rw [List.set_append_right _ _ (Nat.le_add_right _ _), Nat.add_sub_cancel_left, h2 e σ' hE]
section HR
variable {p : Program} {l : Launch} {e : Env} {R : Room} {s : State} {m : MethodId} {args : Array Value} {below : List Frame} {meth : Method} {c : Code} {D : va_G} {A : Nat → Prop} {nL : Nat} {Q : State → Prop} {cc : ByteArray} {Ts : List Cond} {own : String} {ret : Option FieldType} {ZZ : (Nat → Prop) → State → Heap → Prop}
variable {k n pc : Nat} {lv : List (Nat × Value)} {st : List Value} {cy : Nat → ClassId} {Ac aK B : Nat → Nat} {X8 : va_W} {σ ρ : St}
theorem lW_def (cy : Nat → ClassId) (Ac aK B : Nat → Nat) (X8 : va_W) (σ ρ : St) : lW cy Ac aK B X8 σ ρ = cL.map (fun j => (Ac j, cE cy Ac aK σ j)) ++ wF B (lE cy B) lL X8 ρ := rfl
theorem h_ixor {tys : List (ClassId × FieldType)} {ws : va_W} (X : gC ZZ p s m args meth c D tys A cc Ts own nL ret) {x y : Int32} (hdg : decode cc pc = .ok (.ixor, 1)) (kk : gG p l e R s m args below meth c D tys A nL Q ws k n (pc + 1) lv (.int (x ^^^ y) :: st)) : gG p l e R s m args below meth c D tys A nL Q ws k n pc lv (.int y :: .int x :: st) := fun H locs ls hP hD hSs hl0 => lv_ixor X.1.1 X.1.2.1 hdg (kk H locs ls hP hD hSs hl0)
theorem h_aald (X : gC ZZ p s m args meth c D (cyT cy) A cc Ts own nL ret) {g : Nat} (hg : g < 3) {i : Int32} {k9 : Nat} (h0 : ¬ i < 0) (hk : i.toNatClampNeg = k9) (h3 : k9 < 3) (hdg : decode cc pc = .ok (.aaload, 1)) (kk : gG p l e R s m args below meth c D (cyT cy) A nL Q (lW cy Ac aK B X8 σ ρ) k n (pc + 1) lv (.ref (B (4 + 3 * g + k9)) :: st)) : gG p l e R s m args below meth c D (cyT cy) A nL Q (lW cy Ac aK B X8 σ ρ) k n pc lv (.int i :: .ref (B (1 + g)) :: st) := by
  subst hk
  intro H locs ls hP hD hSs hl0
  obtain ⟨q, hq⟩ := wF_get2 (P := cL.map (fun j => (Ac j, cE cy Ac aK σ j))) (A := B) (E := lE cy B) (X := X8) (σ := ρ) (mem_lL.mpr (show 1 + g < 14 by omega))
  rw [lE_g cy B ρ hg] at hq
  have hin : ¬ (i < 0 ∨ 3 ≤ i.toNatClampNeg) := fun z => z.elim h0 (fun z => absurd h3 (Nat.not_lt.mpr z))
  refine W.aald (v := .ref (B (4 + 3 * g + i.toNatClampNeg))) (ty := .array .int) X.1.1 X.1.2.1 (hP q _ hq) ((X.2.1.2 5 _ rfl).1 3 (fun j => va_rf (if j < 3 then some (B (3 * (1 + g) + 1 + j)) else none))) rfl (fun q => by cases q) (by show ¬ (i < 0 ∨ (arrV _ _ _).slots.size ≤ _); rw [arrV_size]; exact hin) ?_ rfl rfl hdg (kk H locs ls hP hD hSs hl0)
  show (arrV _ _ _).slots[_]? = _
  rw [arrV_read _ _ h3]
  show some (va_rf (if i.toNatClampNeg < 3 then some (B (3 * (1 + g) + 1 + i.toNatClampNeg)) else none)) = _
  rw [if_pos h3, show 3 * (1 + g) + 1 + i.toNatClampNeg = 4 + 3 * g + i.toNatClampNeg by omega]
  rfl
theorem h_rld (X : gC ZZ p s m args meth c D (cyT cy) A cc Ts own nL ret)  {i : Int32} {k9 : Nat} (hin : ¬ (i < 0 ∨ 1 ≤ i.toNatClampNeg)) (hk : i.toNatClampNeg = k9) (hdg : decode cc pc = .ok (.iaload, 1)) (kk : gG p l e R s m args below meth c D (cyT cy) A nL Q (lW cy Ac aK B X8 σ ρ) k n (pc + 1) lv (.int (gr ρ 0 k9) :: st)) : gG p l e R s m args below meth c D (cyT cy) A nL Q (lW cy Ac aK B X8 σ ρ) k n pc lv (.int i :: .ref (B 0) :: st) := by
  subst hk
  intro H locs ls hP hD hSs hl0
  obtain ⟨q, hq⟩ := wF_get2 (P := cL.map (fun j => (Ac j, cE cy Ac aK σ j))) (A := B) (E := lE cy B) (X := X8) (σ := ρ) (j := 0) (mem_lL.mpr (by decide))
  rw [lE_0 cy B ρ] at hq
  exact va_iald X.1.1 X.1.2.1 X.2.1 hP q 0 hq rfl hin hdg (kk H locs ls hP hD hSs hl0)
theorem h_gld (X : gC ZZ p s m args meth c D (cyT cy) A cc Ts own nL ret) {j : Nat} (hj : isGr j)  {i : Int32} {k9 : Nat} (hin : ¬ (i < 0 ∨ 3200 ≤ i.toNatClampNeg)) (hk : i.toNatClampNeg = k9) (hdg : decode cc pc = .ok (.iaload, 1)) (kk : gG p l e R s m args below meth c D (cyT cy) A nL Q (lW cy Ac aK B X8 σ ρ) k n (pc + 1) lv (.int (gr ρ j k9) :: st)) : gG p l e R s m args below meth c D (cyT cy) A nL Q (lW cy Ac aK B X8 σ ρ) k n pc lv (.int i :: .ref (B j) :: st) := by
  subst hk
  intro H locs ls hP hD hSs hl0
  obtain ⟨q, hq⟩ := wF_get2 (P := cL.map (fun j => (Ac j, cE cy Ac aK σ j))) (A := B) (E := lE cy B) (X := X8) (σ := ρ) (j := j) (mem_lL.mpr (Nat.lt_succ_of_lt hj.2))
  rw [lE_r cy B ρ hj] at hq
  exact va_iald X.1.1 X.1.2.1 X.2.1 hP q 0 hq rfl hin hdg (kk H locs ls hP hD hSs hl0)
theorem h_tld (X : gC ZZ p s m args meth c D (cyT cy) A cc Ts own nL ret)  {i : Int32} {k9 : Nat} (hin : ¬ (i < 0 ∨ 3200 ≤ i.toNatClampNeg)) (hk : i.toNatClampNeg = k9) (hdg : decode cc pc = .ok (.baload, 1)) (kk : gG p l e R s m args below meth c D (cyT cy) A nL Q (lW cy Ac aK B X8 σ ρ) k n (pc + 1) lv (.int (gr ρ 13 k9) :: st)) : gG p l e R s m args below meth c D (cyT cy) A nL Q (lW cy Ac aK B X8 σ ρ) k n pc lv (.int i :: .ref (B 13) :: st) := by
  subst hk
  intro H locs ls hP hD hSs hl0
  obtain ⟨q, hq⟩ := wF_get2 (P := cL.map (fun j => (Ac j, cE cy Ac aK σ j))) (A := B) (E := lE cy B) (X := X8) (σ := ρ) (j := 13) (mem_lL.mpr (by decide))
  rw [lE_13 cy B ρ] at hq
  exact va_zald X.1.1 X.1.2.1 X.2.1 hP q 2 hq rfl hin hdg (kk H locs ls hP hD hSs hl0)
theorem h_rst (X : gC ZZ p s m args meth c D (cyT cy) A cc Ts own nL ret)  {i x : Int32} {k9 : Nat} (hin : ¬ (i < 0 ∨ 1 ≤ i.toNatClampNeg)) (hk : i.toNatClampNeg = k9) (hdg : decode cc pc = .ok (.iastore, 1)) (kk : gG p l e R s m args below meth c D (cyT cy) A nL Q (lW cy Ac aK B X8 σ (sr ρ 0 (upd (gr ρ 0) k9 x))) k n (pc + 1) lv st) : gG p l e R s m args below meth c D (cyT cy) A nL Q (lW cy Ac aK B X8 σ ρ) k n pc lv (.int x :: .int i :: .ref (B 0) :: st) := by
  subst hk
  intro H locs ls hP hD hSs hl0
  obtain ⟨q, hq, hset⟩ := wF_at2 (P := cL.map (fun j => (Ac j, cE cy Ac aK σ j))) (A := B) (E := lE cy B) (X := X8) (σ := ρ) (j := 0) hD (mem_lL.mpr (by decide))
  rw [lE_0 cy B ρ] at hq
  refine va_iast X.1.1 X.1.2.1 X.2.1 hP hD hSs q 0 hq rfl hin hdg (fun H1 locs1 hP1 hD1 hS1 => ?_)
  rw [lW_def, hset _ (sr ρ 0 (upd (gr ρ 0) i.toNatClampNeg x)) (lE_sr cy B ρ (by rw [lE_0 cy B _, gr_sr, if_pos rfl]))] at hP1 hD1
  exact kk H1 locs1 ls hP1 hD1 hS1 hl0
theorem h_gst (X : gC ZZ p s m args meth c D (cyT cy) A cc Ts own nL ret) {j : Nat} (hj : isGr j)  {i x : Int32} {k9 : Nat} (hin : ¬ (i < 0 ∨ 3200 ≤ i.toNatClampNeg)) (hk : i.toNatClampNeg = k9) (hdg : decode cc pc = .ok (.iastore, 1)) (kk : gG p l e R s m args below meth c D (cyT cy) A nL Q (lW cy Ac aK B X8 σ (sr ρ j (upd (gr ρ j) k9 x))) k n (pc + 1) lv st) : gG p l e R s m args below meth c D (cyT cy) A nL Q (lW cy Ac aK B X8 σ ρ) k n pc lv (.int x :: .int i :: .ref (B j) :: st) := by
  subst hk
  intro H locs ls hP hD hSs hl0
  obtain ⟨q, hq, hset⟩ := wF_at2 (P := cL.map (fun j => (Ac j, cE cy Ac aK σ j))) (A := B) (E := lE cy B) (X := X8) (σ := ρ) (j := j) hD (mem_lL.mpr (Nat.lt_succ_of_lt hj.2))
  rw [lE_r cy B ρ hj] at hq
  refine va_iast X.1.1 X.1.2.1 X.2.1 hP hD hSs q 0 hq rfl hin hdg (fun H1 locs1 hP1 hD1 hS1 => ?_)
  rw [lW_def, hset _ (sr ρ j (upd (gr ρ j) i.toNatClampNeg x)) (lE_sr cy B ρ (by rw [lE_r cy B _ hj, gr_sr, if_pos rfl]))] at hP1 hD1
  exact kk H1 locs1 ls hP1 hD1 hS1 hl0
theorem h_tst (X : gC ZZ p s m args meth c D (cyT cy) A cc Ts own nL ret)  {i x : Int32} {k9 : Nat} (hin : ¬ (i < 0 ∨ 3200 ≤ i.toNatClampNeg)) (hk : i.toNatClampNeg = k9) (hdg : decode cc pc = .ok (.bastore, 1)) (kk : gG p l e R s m args below meth c D (cyT cy) A nL Q (lW cy Ac aK B X8 σ (sr ρ 13 (upd (gr ρ 13) k9 (vp_nar .boolean x)))) k n (pc + 1) lv st) : gG p l e R s m args below meth c D (cyT cy) A nL Q (lW cy Ac aK B X8 σ ρ) k n pc lv (.int x :: .int i :: .ref (B 13) :: st) := by
  subst hk
  intro H locs ls hP hD hSs hl0
  obtain ⟨q, hq, hset⟩ := wF_at2 (P := cL.map (fun j => (Ac j, cE cy Ac aK σ j))) (A := B) (E := lE cy B) (X := X8) (σ := ρ) (j := 13) hD (mem_lL.mpr (by decide))
  rw [lE_13 cy B ρ] at hq
  refine va_zast X.1.1 X.1.2.1 X.2.1 hP hD hSs q 2 hq rfl hin hdg (fun H1 locs1 hP1 hD1 hS1 => ?_)
  rw [lW_def, hset _ (sr ρ 13 (upd (gr ρ 13) i.toNatClampNeg (vp_nar .boolean x))) (lE_sr cy B ρ (by rw [lE_13 cy B _, gr_sr, if_pos rfl]))] at hP1 hD1
  exact kk H1 locs1 ls hP1 hD1 hS1 hl0
variable {qm : Nat} {μ : Nat → Int32}
theorem h_manyAt (cy : Nat → ClassId) (Ac aK B : Nat → Nat) (X8 : va_W) (σ ρ : St) (qm : Nat) (v : va_E) : (lW cy Ac aK B ((qm, v) :: X8) σ ρ)[cL.length + lL.length]? = some (qm, v) ∧ ∀ u : va_E, (lW cy Ac aK B ((qm, v) :: X8) σ ρ).set (cL.length + lL.length) (qm, u) = lW cy Ac aK B ((qm, u) :: X8) σ ρ := by
  have e : ∀ z : va_E, lW cy Ac aK B ((qm, z) :: X8) σ ρ = (cL.map (fun j => (Ac j, cE cy Ac aK σ j)) ++ lL.map (fun j => (B j, lE cy B ρ j))) ++ (qm, z) :: X8 := fun z => (List.append_assoc _ _ _).symm
  have hl : cL.length + lL.length = (cL.map (fun j => (Ac j, cE cy Ac aK σ j)) ++ lL.map (fun j => (B j, lE cy B ρ j))).length := by rw [List.length_append, List.length_map, List.length_map]
  refine ⟨?_, fun u => ?_⟩
  · rw [e, hl, List.getElem?_append_right (Nat.le_refl _), Nat.sub_self]; rfl
  · rw [e, e, hl, List.set_append_right _ _ (Nat.le_refl _), Nat.sub_self]; rfl
theorem h_mld (X : gC ZZ p s m args meth c D (cyT cy) A cc Ts own nL ret) {i : Int32} {k9 : Nat} (hin : ¬ (i < 0 ∨ 4 ≤ i.toNatClampNeg)) (hk : i.toNatClampNeg = k9) (hdg : decode cc pc = .ok (.iaload, 1)) (kk : gG p l e R s m args below meth c D (cyT cy) A nL Q (lW cy Ac aK B ((qm, .inl (cy 0, 4, .inl μ)) :: X8) σ ρ) k n (pc + 1) lv (.int (μ k9) :: st)) : gG p l e R s m args below meth c D (cyT cy) A nL Q (lW cy Ac aK B ((qm, .inl (cy 0, 4, .inl μ)) :: X8) σ ρ) k n pc lv (.int i :: .ref qm :: st) := by
  subst hk
  intro H locs ls hP hD hSs hl0
  exact va_iald X.1.1 X.1.2.1 X.2.1 hP _ 0 (h_manyAt cy Ac aK B X8 σ ρ qm _).1 rfl hin hdg (kk H locs ls hP hD hSs hl0)
theorem h_mst (X : gC ZZ p s m args meth c D (cyT cy) A cc Ts own nL ret) {i x : Int32} {k9 : Nat} (hin : ¬ (i < 0 ∨ 4 ≤ i.toNatClampNeg)) (hk : i.toNatClampNeg = k9) (hdg : decode cc pc = .ok (.iastore, 1)) (kk : gG p l e R s m args below meth c D (cyT cy) A nL Q (lW cy Ac aK B ((qm, .inl (cy 0, 4, .inl (upd μ k9 x))) :: X8) σ ρ) k n (pc + 1) lv st) : gG p l e R s m args below meth c D (cyT cy) A nL Q (lW cy Ac aK B ((qm, .inl (cy 0, 4, .inl μ)) :: X8) σ ρ) k n pc lv (.int x :: .int i :: .ref qm :: st) := by
  subst hk
  intro H locs ls hP hD hSs hl0
  refine va_iast X.1.1 X.1.2.1 X.2.1 hP hD hSs _ 0 (h_manyAt cy Ac aK B X8 σ ρ qm _).1 rfl hin hdg (fun H1 locs1 hP1 hD1 hS1 => ?_)
  rw [(h_manyAt cy Ac aK B X8 σ ρ qm _).2] at hP1 hD1
  exact kk H1 locs1 ls hP1 hD1 hS1 hl0
/-- the own row is forgotten -/
theorem h_drop {v : va_E} (kk : gG p l e R s m args below meth c D (cyT cy) A nL Q (lW cy Ac aK B X8 σ ρ) k n pc lv st) : gG p l e R s m args below meth c D (cyT cy) A nL Q (lW cy Ac aK B ((qm, v) :: X8) σ ρ) k n pc lv st := by
  intro H locs ls hP hD hSs hl0
  have e : ∀ z : va_W, lW cy Ac aK B z σ ρ = (cL.map (fun j => (Ac j, cE cy Ac aK σ j)) ++ lL.map (fun j => (B j, lE cy B ρ j))) ++ z := fun z => (List.append_assoc _ _ _).symm
  rw [e] at hP hD
  have hsub : List.Sublist ((cL.map (fun j => (Ac j, cE cy Ac aK σ j)) ++ lL.map (fun j => (B j, lE cy B ρ j))) ++ X8) ((cL.map (fun j => (Ac j, cE cy Ac aK σ j)) ++ lL.map (fun j => (B j, lE cy B ρ j))) ++ (qm, v) :: X8) := (List.Sublist.refl _).append (List.sublist_cons_self _ _)
  refine kk H locs ls ?_ ?_ hSs hl0
  · rw [e]; exact vaP_mem hP fun q hq => hsub.subset hq
  · rw [e]
    obtain ⟨h1, h2⟩ := vaD_iff.mp hD
    exact vaD_iff.mpr ⟨(hsub.map _).nodup h1, fun q hq => h2 q (hsub.subset hq)⟩
end HR
