/-! contracts over worlds by roles: a call's start gPre, its end gAt; mI .. mR of methods that return, xI .. xR of those that may throw -/
def gZ (ZZ : (Nat → Prop) → State → Heap → Prop) : Prop :=
  (∀ (A : Nat → Prop) (U : State) (H H1 : Heap), ZZ A U H → (∀ a : Nat, a < H.size → ¬ A a → H1[a]? = H[a]?) → ZZ A U H1) ∧
  (∀ (A B : Nat → Prop) (U : State) (H : Heap), ZZ A U H → (∀ q, B q → A q) → ZZ B U H) ∧
  (∀ (A : Nat → Prop) (s U : State) (H : Heap), s.WarmedH U.vm → ZZ A s H → ZZ A U H) ∧
  (∀ (A : Nat → Prop) (u U : State) (H : Heap), U.vm = u.vm → ZZ A u H → ZZ A U H)
def gPre (ZZ : (Nat → Prop) → State → Heap → Prop) (D : va_G) (tys : List (ClassId × FieldType)) (W9 : va_W) (sz : Nat) (U : State) : Prop :=
  U.heap.size = sz ∧ va_P D vwCl W9 U.heap ∧ va_K D vwCl tys U ∧ va_D (fun _ => True) W9 ∧ ZZ (va_A W9 sz) U U.heap
def gAt {S : Type} (D : va_G) (tys : List (ClassId × FieldType)) (Wf : S → va_W) (B : Nat → Prop) (u : S) (t : State) : Prop :=
  va_P D vwCl (Wf u) t.heap ∧ va_K D vwCl tys t ∧ va_D B (Wf u)
theorem gPre_blind {ZZ : (Nat → Prop) → State → Heap → Prop} (hzz : gZ ZZ) {D : va_G} {tys : List (ClassId × FieldType)} {W9 : va_W} {sz : Nat} {av : List Value} : FrameBlind (va_Pc av (gPre ZZ D tys W9 sz)) := by
  intro a U g mk q
  obtain ⟨q0, q1, qP, qK, qD, qZ⟩ := q
  exact ⟨q0, q1, qP, va_K.moved (u := U) (U := U.calling g mk a) (Vm.Alike.refl U.vm) qK, qD, hzz.2.2.2 _ U _ _ rfl qZ⟩
/-- the start of a call, from the walk's world -/
theorem gPre_of {ZZ : (Nat → Prop) → State → Heap → Prop} (hzz : gZ ZZ) {D : va_G} {tys : List (ClassId × FieldType)} {W9 : va_W} {A : Nat → Prop} {s : State} {H : Heap} {locs : List Loc} {av : List Value} (hK : va_K D vwCl tys s) (hA : ∀ q : Nat, s.heap.size ≤ q → A q) (hZ : ZZ A s s.heap) (hP : va_P D vwCl W9 H) (hD : va_D A W9) (hSs : va_S A s.heap H locs) :
    (∀ q, va_A W9 H.size q → A q) ∧ ∀ U : State, U.heap = H → s.WarmedH U.vm → va_Pc av (gPre ZZ D tys W9 H.size) av.toArray U := by
  have hF : ∀ q, va_A W9 H.size q → A q := by
    intro q hq
    rcases hq with ⟨k, e, h⟩ | h
    · exact hD.2 k _ h
    · exact hA q (Nat.le_trans hSs.1 h)
  refine ⟨hF, fun U hU hW => ⟨rfl, by rw [hU], by rw [hU]; exact hP, va_K.moved hW.alike hK, hD.weaken (fun _ _ _ _ => trivial), ?_⟩⟩
  rw [hU]
  exact hzz.2.2.1 _ s U _ hW (hzz.2.1 _ _ _ _ (hzz.1 _ _ _ _ hZ hSs.2.1) hF)
section MM
variable (ZZ : (Nat → Prop) → State → Heap → Prop) (D : va_G) (tys : List (ClassId × FieldType)) (l : Launch) (y : MethodName) (ws : List Cond) (rm : Room)

def mI {S : Type} (Wf : S → va_W) (av : List Value) (σ : S) (r : Int32) (σ' : S) : Prop := ∀ sz : Nat, Met l y ws rm (va_Pc av (gPre ZZ D tys (Wf σ) sz)) (va_Qi (fun (r' : Int32) (u : S) => r' = r ∧ u = σ') (gAt D tys Wf (va_A (Wf σ) sz)) (va_A (Wf σ) sz)) 0 0 (va_A (Wf σ) sz)
def xI {S : Type} (Wf : S → va_W) (av : List Value) (σ : S) (r : String ⊕ Int32) (σ' : S) (mcq msq : Nat) : Prop := ∀ sz : Nat, vx_Met l y ws rm (va_Pc av (gPre ZZ D tys (Wf σ) sz)) (va_Qi (fun (r' : Int32) (u : S) => Sum.inr r' = r ∧ u = σ') (gAt D tys Wf (va_A (Wf σ) sz)) (va_A (Wf σ) sz)) (vx_X (fun u : S => u = σ') (fun (E9 : String) (u : S) (t : State) => Sum.inl E9 = r ∧ gAt D tys Wf (va_A (Wf σ) sz) u t) (va_A (Wf σ) sz)) mcq msq (va_A (Wf σ) sz)
def mL {S : Type} (Wf : S → va_W) (av : List Value) (σ : S) (r : Int64) (σ' : S) : Prop := ∀ sz : Nat, Met l y ws rm (va_Pc av (gPre ZZ D tys (Wf σ) sz)) (va_Ql (fun (r' : Int64) (u : S) => r' = r ∧ u = σ') (gAt D tys Wf (va_A (Wf σ) sz)) (va_A (Wf σ) sz)) 0 0 (va_A (Wf σ) sz)
def xL {S : Type} (Wf : S → va_W) (av : List Value) (σ : S) (r : String ⊕ Int64) (σ' : S) (mcq msq : Nat) : Prop := ∀ sz : Nat, vx_Met l y ws rm (va_Pc av (gPre ZZ D tys (Wf σ) sz)) (va_Ql (fun (r' : Int64) (u : S) => Sum.inr r' = r ∧ u = σ') (gAt D tys Wf (va_A (Wf σ) sz)) (va_A (Wf σ) sz)) (vx_X (fun u : S => u = σ') (fun (E9 : String) (u : S) (t : State) => Sum.inl E9 = r ∧ gAt D tys Wf (va_A (Wf σ) sz) u t) (va_A (Wf σ) sz)) mcq msq (va_A (Wf σ) sz)
def mF {S : Type} (Wf : S → va_W) (av : List Value) (σ : S) (r : UInt32) (σ' : S) : Prop := ∀ sz : Nat, Met l y ws rm (va_Pc av (gPre ZZ D tys (Wf σ) sz)) (va_Qf (fun (r' : UInt32) (u : S) => r' = r ∧ u = σ') (gAt D tys Wf (va_A (Wf σ) sz)) (va_A (Wf σ) sz)) 0 0 (va_A (Wf σ) sz)
def xF {S : Type} (Wf : S → va_W) (av : List Value) (σ : S) (r : String ⊕ UInt32) (σ' : S) (mcq msq : Nat) : Prop := ∀ sz : Nat, vx_Met l y ws rm (va_Pc av (gPre ZZ D tys (Wf σ) sz)) (va_Qf (fun (r' : UInt32) (u : S) => Sum.inr r' = r ∧ u = σ') (gAt D tys Wf (va_A (Wf σ) sz)) (va_A (Wf σ) sz)) (vx_X (fun u : S => u = σ') (fun (E9 : String) (u : S) (t : State) => Sum.inl E9 = r ∧ gAt D tys Wf (va_A (Wf σ) sz) u t) (va_A (Wf σ) sz)) mcq msq (va_A (Wf σ) sz)
def mDd {S : Type} (Wf : S → va_W) (av : List Value) (σ : S) (r : UInt64) (σ' : S) : Prop := ∀ sz : Nat, Met l y ws rm (va_Pc av (gPre ZZ D tys (Wf σ) sz)) (va_Qd (fun (r' : UInt64) (u : S) => r' = r ∧ u = σ') (gAt D tys Wf (va_A (Wf σ) sz)) (va_A (Wf σ) sz)) 0 0 (va_A (Wf σ) sz)
def xDd {S : Type} (Wf : S → va_W) (av : List Value) (σ : S) (r : String ⊕ UInt64) (σ' : S) (mcq msq : Nat) : Prop := ∀ sz : Nat, vx_Met l y ws rm (va_Pc av (gPre ZZ D tys (Wf σ) sz)) (va_Qd (fun (r' : UInt64) (u : S) => Sum.inr r' = r ∧ u = σ') (gAt D tys Wf (va_A (Wf σ) sz)) (va_A (Wf σ) sz)) (vx_X (fun u : S => u = σ') (fun (E9 : String) (u : S) (t : State) => Sum.inl E9 = r ∧ gAt D tys Wf (va_A (Wf σ) sz) u t) (va_A (Wf σ) sz)) mcq msq (va_A (Wf σ) sz)
def mV {S : Type} (Wf : S → va_W) (av : List Value) (σ : S) (σ' : S) : Prop := ∀ sz : Nat, Met l y ws rm (va_Pc av (gPre ZZ D tys (Wf σ) sz)) (va_Qv (fun (u : S) => u = σ') (gAt D tys Wf (va_A (Wf σ) sz)) (va_A (Wf σ) sz)) 0 0 (va_A (Wf σ) sz)
def xV {S : Type} (Wf : S → va_W) (av : List Value) (σ : S) (r : String ⊕ Unit) (σ' : S) (mcq msq : Nat) : Prop := ∀ sz : Nat, vx_Met l y ws rm (va_Pc av (gPre ZZ D tys (Wf σ) sz)) (va_Qv (fun (u : S) => Sum.inr () = r ∧ u = σ') (gAt D tys Wf (va_A (Wf σ) sz)) (va_A (Wf σ) sz)) (vx_X (fun u : S => u = σ') (fun (E9 : String) (u : S) (t : State) => Sum.inl E9 = r ∧ gAt D tys Wf (va_A (Wf σ) sz) u t) (va_A (Wf σ) sz)) mcq msq (va_A (Wf σ) sz)
def xR {S : Type} (AD : Nat → Nat) (Wf : S → va_W) (av : List Value) (σ : S) (r : String ⊕ Nat) (σ' : S) (mcq msq : Nat) : Prop := ∀ sz : Nat, vx_Met l y ws rm (va_Pc av (gPre ZZ D tys (Wf σ) sz)) (va_Qq (fun (r' : Option Nat) (u : S) => (∃ j, r' = some (AD j) ∧ Sum.inr j = r) ∧ u = σ') (gAt D tys Wf (va_A (Wf σ) sz)) (va_A (Wf σ) sz)) (vx_X (fun u : S => u = σ') (fun (E9 : String) (u : S) (t : State) => Sum.inl E9 = r ∧ gAt D tys Wf (va_A (Wf σ) sz) u t) (va_A (Wf σ) sz)) mcq msq (va_A (Wf σ) sz)
end MM
abbrev eI {S : Type} (D : va_G) (tys : List (ClassId × FieldType)) (Wf : S → va_W) (B : Nat → Prop) (below : List Frame) (args : Array Value) (s : State) (r : Int32) (σ' : S) : State → Prop := MQ below (va_Qi (fun (r' : Int32) (u : S) => r' = r ∧ u = σ') (gAt D tys Wf B) B) args s 0 0 B
abbrev xeI {S : Type} (D : va_G) (tys : List (ClassId × FieldType)) (Wf : S → va_W) (B : Nat → Prop) (below : List Frame) (args : Array Value) (s : State) (r : String ⊕ Int32) (σ' : S) (mcq msq : Nat) : State → Prop := vx_MQ below (va_Qi (fun (r' : Int32) (u : S) => Sum.inr r' = r ∧ u = σ') (gAt D tys Wf B) B) (vx_X (fun u : S => u = σ') (fun (E9 : String) (u : S) (t : State) => Sum.inl E9 = r ∧ gAt D tys Wf B u t) B) args s mcq msq B
abbrev eL {S : Type} (D : va_G) (tys : List (ClassId × FieldType)) (Wf : S → va_W) (B : Nat → Prop) (below : List Frame) (args : Array Value) (s : State) (r : Int64) (σ' : S) : State → Prop := MQ below (va_Ql (fun (r' : Int64) (u : S) => r' = r ∧ u = σ') (gAt D tys Wf B) B) args s 0 0 B
abbrev xeL {S : Type} (D : va_G) (tys : List (ClassId × FieldType)) (Wf : S → va_W) (B : Nat → Prop) (below : List Frame) (args : Array Value) (s : State) (r : String ⊕ Int64) (σ' : S) (mcq msq : Nat) : State → Prop := vx_MQ below (va_Ql (fun (r' : Int64) (u : S) => Sum.inr r' = r ∧ u = σ') (gAt D tys Wf B) B) (vx_X (fun u : S => u = σ') (fun (E9 : String) (u : S) (t : State) => Sum.inl E9 = r ∧ gAt D tys Wf B u t) B) args s mcq msq B
abbrev eF {S : Type} (D : va_G) (tys : List (ClassId × FieldType)) (Wf : S → va_W) (B : Nat → Prop) (below : List Frame) (args : Array Value) (s : State) (r : UInt32) (σ' : S) : State → Prop := MQ below (va_Qf (fun (r' : UInt32) (u : S) => r' = r ∧ u = σ') (gAt D tys Wf B) B) args s 0 0 B
abbrev xeF {S : Type} (D : va_G) (tys : List (ClassId × FieldType)) (Wf : S → va_W) (B : Nat → Prop) (below : List Frame) (args : Array Value) (s : State) (r : String ⊕ UInt32) (σ' : S) (mcq msq : Nat) : State → Prop := vx_MQ below (va_Qf (fun (r' : UInt32) (u : S) => Sum.inr r' = r ∧ u = σ') (gAt D tys Wf B) B) (vx_X (fun u : S => u = σ') (fun (E9 : String) (u : S) (t : State) => Sum.inl E9 = r ∧ gAt D tys Wf B u t) B) args s mcq msq B
abbrev eDd {S : Type} (D : va_G) (tys : List (ClassId × FieldType)) (Wf : S → va_W) (B : Nat → Prop) (below : List Frame) (args : Array Value) (s : State) (r : UInt64) (σ' : S) : State → Prop := MQ below (va_Qd (fun (r' : UInt64) (u : S) => r' = r ∧ u = σ') (gAt D tys Wf B) B) args s 0 0 B
abbrev xeDd {S : Type} (D : va_G) (tys : List (ClassId × FieldType)) (Wf : S → va_W) (B : Nat → Prop) (below : List Frame) (args : Array Value) (s : State) (r : String ⊕ UInt64) (σ' : S) (mcq msq : Nat) : State → Prop := vx_MQ below (va_Qd (fun (r' : UInt64) (u : S) => Sum.inr r' = r ∧ u = σ') (gAt D tys Wf B) B) (vx_X (fun u : S => u = σ') (fun (E9 : String) (u : S) (t : State) => Sum.inl E9 = r ∧ gAt D tys Wf B u t) B) args s mcq msq B
abbrev eV {S : Type} (D : va_G) (tys : List (ClassId × FieldType)) (Wf : S → va_W) (B : Nat → Prop) (below : List Frame) (args : Array Value) (s : State) (σ' : S) : State → Prop := MQ below (va_Qv (fun (u : S) => u = σ') (gAt D tys Wf B) B) args s 0 0 B
abbrev xeV {S : Type} (D : va_G) (tys : List (ClassId × FieldType)) (Wf : S → va_W) (B : Nat → Prop) (below : List Frame) (args : Array Value) (s : State) (r : String ⊕ Unit) (σ' : S) (mcq msq : Nat) : State → Prop := vx_MQ below (va_Qv (fun (u : S) => Sum.inr () = r ∧ u = σ') (gAt D tys Wf B) B) (vx_X (fun u : S => u = σ') (fun (E9 : String) (u : S) (t : State) => Sum.inl E9 = r ∧ gAt D tys Wf B u t) B) args s mcq msq B
abbrev xeR {S : Type} (AD : Nat → Nat) (D : va_G) (tys : List (ClassId × FieldType)) (Wf : S → va_W) (B : Nat → Prop) (below : List Frame) (args : Array Value) (s : State) (r : String ⊕ Nat) (σ' : S) (mcq msq : Nat) : State → Prop := vx_MQ below (va_Qq (fun (r' : Option Nat) (u : S) => (∃ j, r' = some (AD j) ∧ Sum.inr j = r) ∧ u = σ') (gAt D tys Wf B) B) (vx_X (fun u : S => u = σ') (fun (E9 : String) (u : S) (t : State) => Sum.inl E9 = r ∧ gAt D tys Wf B u t) B) args s mcq msq B
section BB
variable {ZZ : (Nat → Prop) → State → Heap → Prop} {D : va_G} {tys : List (ClassId × FieldType)} {l : Launch} {y : MethodName} {ws ws' : List Cond} {rm : Room} {S : Type} {Wf : S → va_W} {av : List Value} {σ σ' : S} {cc : ByteArray} {maxL : Nat} {ret : Option FieldType}
theorem gBody {rm : Room} {p : Program} {e : Env} {s : State} {m : MethodId} {args : Array Value} {below : List Frame} {meth : Method} {c : Code} {s₁ : State} {Qe : State → Prop} {A : Nat → Prop} (hw : ws = Cond.code y cc maxL ret :: ws') (hlen : (lg_sl av).length ≤ maxL)
    (B : BodyLoose p l y (headSpec ws rm) cc maxL ret e s m args below meth c s₁) (hml : c.maxLocals = maxL) (hv : va_Pc av (gPre ZZ D tys (Wf σ) s.heap.size) args s) (hAe : va_A (Wf σ) s.heap.size = A)
    (body : gC ZZ p s m args meth c D tys A cc ws y.cls maxL ret → gG p l e rm s m args below meth c D tys A maxL Qe (Wf σ) 0 0 0 (lv_args 0 av) []) :
    W p l e (headSpec ws rm).room s m args below meth c s.heap [] 0 0 Qe (entryFrame m args maxL) := by
  obtain ⟨rfl, hsz, hP, hK, hD0, hZ⟩ := hv
  have hts := atoms_spec (ws := ws) B.pre
  have hown : s.vm.findClass y.cls = some m.cls := findClass_of_methodNamed B.named
  have hD := hD0.self (sz := s.heap.size)
  rw [hAe] at hD hZ
  have hA : ∀ q : Nat, s.heap.size ≤ q → A q := fun q h => by rw [← hAe]; exact Or.inr h
  have hl := lv_entry av (n := maxL) hlen
  rw [lg_entry_eq]
  exact body ⟨⟨B.exec, B.bytes, hml, hown, hts⟩, hK, hA, hZ, B.returns, B.notSynchronized⟩ s.heap [] _ hP hD va_S.rf hl

theorem mI_of {r : Int32} (hy : plainName y.cls = true) (hw : ws = Cond.code y cc maxL ret :: ws') (hlen : (lg_sl av).length ≤ maxL)
    (body : ∀ (p : Program) (e : Env) (s : State) (m : MethodId) (args : Array Value) (below : List Frame) (meth : Method) (c : Code) (A : Nat → Prop), gC ZZ p s m args meth c D tys A cc ws y.cls maxL ret → gG p l e rm s m args below meth c D tys A maxL (MQ below (va_Qi (fun (r' : Int32) (u : S) => r' = r ∧ u = σ') (gAt D tys Wf A) A) args s 0 0 A) (Wf σ) 0 0 0 (lv_args 0 av) []) : mI ZZ D tys l y ws rm Wf av σ r σ' := by
  intro sz
  refine Met.ofW (cc := cc) (maxL := maxL) (ret := ret) hy hw ?_
  intro p e s m args below meth c s₁ B hml hv
  have hsz : s.heap.size = sz := hv.2.1
  subst hsz
  exact gBody hw hlen B hml hv rfl (body p e s m args below meth c _)
theorem xI_of {r : String ⊕ Int32} {mcq msq : Nat} (hy : plainName y.cls = true) (hw : ws = Cond.code y cc maxL ret :: ws') (hlen : (lg_sl av).length ≤ maxL)
    (body : ∀ (p : Program) (e : Env) (s : State) (m : MethodId) (args : Array Value) (below : List Frame) (meth : Method) (c : Code) (A : Nat → Prop), gC ZZ p s m args meth c D tys A cc ws y.cls maxL ret → (∀ x ∈ c.exceptionTable.toList, False) → gG p l e rm s m args below meth c D tys A maxL (vx_MQ below (va_Qi (fun (r' : Int32) (u : S) => Sum.inr r' = r ∧ u = σ') (gAt D tys Wf A) A) (vx_X (fun u : S => u = σ') (fun (E9 : String) (u : S) (t : State) => Sum.inl E9 = r ∧ gAt D tys Wf A u t) A) args s mcq msq A) (Wf σ) 0 0 0 (lv_args 0 av) []) : xI ZZ D tys l y ws rm Wf av σ r σ' mcq msq := by
  intro sz
  refine vx_ofW (cc := cc) (maxL := maxL) (ret := ret) hy hw ?_
  intro p e s m args below meth c s₁ B hml hx0 hv
  have hsz : s.heap.size = sz := hv.2.1
  subst hsz
  exact gBody hw hlen B hml hv rfl (fun X => body p e s m args below meth c _ X hx0)
theorem mL_of {r : Int64} (hy : plainName y.cls = true) (hw : ws = Cond.code y cc maxL ret :: ws') (hlen : (lg_sl av).length ≤ maxL)
    (body : ∀ (p : Program) (e : Env) (s : State) (m : MethodId) (args : Array Value) (below : List Frame) (meth : Method) (c : Code) (A : Nat → Prop), gC ZZ p s m args meth c D tys A cc ws y.cls maxL ret → gG p l e rm s m args below meth c D tys A maxL (MQ below (va_Ql (fun (r' : Int64) (u : S) => r' = r ∧ u = σ') (gAt D tys Wf A) A) args s 0 0 A) (Wf σ) 0 0 0 (lv_args 0 av) []) : mL ZZ D tys l y ws rm Wf av σ r σ' := by
  intro sz
  refine Met.ofW (cc := cc) (maxL := maxL) (ret := ret) hy hw ?_
  intro p e s m args below meth c s₁ B hml hv
  have hsz : s.heap.size = sz := hv.2.1
  subst hsz
  exact gBody hw hlen B hml hv rfl (body p e s m args below meth c _)
theorem xL_of {r : String ⊕ Int64} {mcq msq : Nat} (hy : plainName y.cls = true) (hw : ws = Cond.code y cc maxL ret :: ws') (hlen : (lg_sl av).length ≤ maxL)
    (body : ∀ (p : Program) (e : Env) (s : State) (m : MethodId) (args : Array Value) (below : List Frame) (meth : Method) (c : Code) (A : Nat → Prop), gC ZZ p s m args meth c D tys A cc ws y.cls maxL ret → (∀ x ∈ c.exceptionTable.toList, False) → gG p l e rm s m args below meth c D tys A maxL (vx_MQ below (va_Ql (fun (r' : Int64) (u : S) => Sum.inr r' = r ∧ u = σ') (gAt D tys Wf A) A) (vx_X (fun u : S => u = σ') (fun (E9 : String) (u : S) (t : State) => Sum.inl E9 = r ∧ gAt D tys Wf A u t) A) args s mcq msq A) (Wf σ) 0 0 0 (lv_args 0 av) []) : xL ZZ D tys l y ws rm Wf av σ r σ' mcq msq := by
  intro sz
  refine vx_ofW (cc := cc) (maxL := maxL) (ret := ret) hy hw ?_
  intro p e s m args below meth c s₁ B hml hx0 hv
  have hsz : s.heap.size = sz := hv.2.1
  subst hsz
  exact gBody hw hlen B hml hv rfl (fun X => body p e s m args below meth c _ X hx0)
theorem mF_of {r : UInt32} (hy : plainName y.cls = true) (hw : ws = Cond.code y cc maxL ret :: ws') (hlen : (lg_sl av).length ≤ maxL)
    (body : ∀ (p : Program) (e : Env) (s : State) (m : MethodId) (args : Array Value) (below : List Frame) (meth : Method) (c : Code) (A : Nat → Prop), gC ZZ p s m args meth c D tys A cc ws y.cls maxL ret → gG p l e rm s m args below meth c D tys A maxL (MQ below (va_Qf (fun (r' : UInt32) (u : S) => r' = r ∧ u = σ') (gAt D tys Wf A) A) args s 0 0 A) (Wf σ) 0 0 0 (lv_args 0 av) []) : mF ZZ D tys l y ws rm Wf av σ r σ' := by
  intro sz
  refine Met.ofW (cc := cc) (maxL := maxL) (ret := ret) hy hw ?_
  intro p e s m args below meth c s₁ B hml hv
  have hsz : s.heap.size = sz := hv.2.1
  subst hsz
  exact gBody hw hlen B hml hv rfl (body p e s m args below meth c _)
theorem xF_of {r : String ⊕ UInt32} {mcq msq : Nat} (hy : plainName y.cls = true) (hw : ws = Cond.code y cc maxL ret :: ws') (hlen : (lg_sl av).length ≤ maxL)
    (body : ∀ (p : Program) (e : Env) (s : State) (m : MethodId) (args : Array Value) (below : List Frame) (meth : Method) (c : Code) (A : Nat → Prop), gC ZZ p s m args meth c D tys A cc ws y.cls maxL ret → (∀ x ∈ c.exceptionTable.toList, False) → gG p l e rm s m args below meth c D tys A maxL (vx_MQ below (va_Qf (fun (r' : UInt32) (u : S) => Sum.inr r' = r ∧ u = σ') (gAt D tys Wf A) A) (vx_X (fun u : S => u = σ') (fun (E9 : String) (u : S) (t : State) => Sum.inl E9 = r ∧ gAt D tys Wf A u t) A) args s mcq msq A) (Wf σ) 0 0 0 (lv_args 0 av) []) : xF ZZ D tys l y ws rm Wf av σ r σ' mcq msq := by
  intro sz
  refine vx_ofW (cc := cc) (maxL := maxL) (ret := ret) hy hw ?_
  intro p e s m args below meth c s₁ B hml hx0 hv
  have hsz : s.heap.size = sz := hv.2.1
  subst hsz
  exact gBody hw hlen B hml hv rfl (fun X => body p e s m args below meth c _ X hx0)
theorem mDd_of {r : UInt64} (hy : plainName y.cls = true) (hw : ws = Cond.code y cc maxL ret :: ws') (hlen : (lg_sl av).length ≤ maxL)
    (body : ∀ (p : Program) (e : Env) (s : State) (m : MethodId) (args : Array Value) (below : List Frame) (meth : Method) (c : Code) (A : Nat → Prop), gC ZZ p s m args meth c D tys A cc ws y.cls maxL ret → gG p l e rm s m args below meth c D tys A maxL (MQ below (va_Qd (fun (r' : UInt64) (u : S) => r' = r ∧ u = σ') (gAt D tys Wf A) A) args s 0 0 A) (Wf σ) 0 0 0 (lv_args 0 av) []) : mDd ZZ D tys l y ws rm Wf av σ r σ' := by
  intro sz
  refine Met.ofW (cc := cc) (maxL := maxL) (ret := ret) hy hw ?_
  intro p e s m args below meth c s₁ B hml hv
  have hsz : s.heap.size = sz := hv.2.1
  subst hsz
  exact gBody hw hlen B hml hv rfl (body p e s m args below meth c _)
theorem xDd_of {r : String ⊕ UInt64} {mcq msq : Nat} (hy : plainName y.cls = true) (hw : ws = Cond.code y cc maxL ret :: ws') (hlen : (lg_sl av).length ≤ maxL)
    (body : ∀ (p : Program) (e : Env) (s : State) (m : MethodId) (args : Array Value) (below : List Frame) (meth : Method) (c : Code) (A : Nat → Prop), gC ZZ p s m args meth c D tys A cc ws y.cls maxL ret → (∀ x ∈ c.exceptionTable.toList, False) → gG p l e rm s m args below meth c D tys A maxL (vx_MQ below (va_Qd (fun (r' : UInt64) (u : S) => Sum.inr r' = r ∧ u = σ') (gAt D tys Wf A) A) (vx_X (fun u : S => u = σ') (fun (E9 : String) (u : S) (t : State) => Sum.inl E9 = r ∧ gAt D tys Wf A u t) A) args s mcq msq A) (Wf σ) 0 0 0 (lv_args 0 av) []) : xDd ZZ D tys l y ws rm Wf av σ r σ' mcq msq := by
  intro sz
  refine vx_ofW (cc := cc) (maxL := maxL) (ret := ret) hy hw ?_
  intro p e s m args below meth c s₁ B hml hx0 hv
  have hsz : s.heap.size = sz := hv.2.1
  subst hsz
  exact gBody hw hlen B hml hv rfl (fun X => body p e s m args below meth c _ X hx0)
theorem mV_of  (hy : plainName y.cls = true) (hw : ws = Cond.code y cc maxL ret :: ws') (hlen : (lg_sl av).length ≤ maxL)
    (body : ∀ (p : Program) (e : Env) (s : State) (m : MethodId) (args : Array Value) (below : List Frame) (meth : Method) (c : Code) (A : Nat → Prop), gC ZZ p s m args meth c D tys A cc ws y.cls maxL ret → gG p l e rm s m args below meth c D tys A maxL (MQ below (va_Qv (fun (u : S) => u = σ') (gAt D tys Wf A) A) args s 0 0 A) (Wf σ) 0 0 0 (lv_args 0 av) []) : mV ZZ D tys l y ws rm Wf av σ σ' := by
  intro sz
  refine Met.ofW (cc := cc) (maxL := maxL) (ret := ret) hy hw ?_
  intro p e s m args below meth c s₁ B hml hv
  have hsz : s.heap.size = sz := hv.2.1
  subst hsz
  exact gBody hw hlen B hml hv rfl (body p e s m args below meth c _)
theorem xV_of {r : String ⊕ Unit} {mcq msq : Nat} (hy : plainName y.cls = true) (hw : ws = Cond.code y cc maxL ret :: ws') (hlen : (lg_sl av).length ≤ maxL)
    (body : ∀ (p : Program) (e : Env) (s : State) (m : MethodId) (args : Array Value) (below : List Frame) (meth : Method) (c : Code) (A : Nat → Prop), gC ZZ p s m args meth c D tys A cc ws y.cls maxL ret → (∀ x ∈ c.exceptionTable.toList, False) → gG p l e rm s m args below meth c D tys A maxL (vx_MQ below (va_Qv (fun (u : S) => Sum.inr () = r ∧ u = σ') (gAt D tys Wf A) A) (vx_X (fun u : S => u = σ') (fun (E9 : String) (u : S) (t : State) => Sum.inl E9 = r ∧ gAt D tys Wf A u t) A) args s mcq msq A) (Wf σ) 0 0 0 (lv_args 0 av) []) : xV ZZ D tys l y ws rm Wf av σ r σ' mcq msq := by
  intro sz
  refine vx_ofW (cc := cc) (maxL := maxL) (ret := ret) hy hw ?_
  intro p e s m args below meth c s₁ B hml hx0 hv
  have hsz : s.heap.size = sz := hv.2.1
  subst hsz
  exact gBody hw hlen B hml hv rfl (fun X => body p e s m args below meth c _ X hx0)
theorem xR_of {AD : Nat → Nat} {r : String ⊕ Nat} {mcq msq : Nat} (hy : plainName y.cls = true) (hw : ws = Cond.code y cc maxL ret :: ws') (hlen : (lg_sl av).length ≤ maxL)
    (body : ∀ (p : Program) (e : Env) (s : State) (m : MethodId) (args : Array Value) (below : List Frame) (meth : Method) (c : Code) (A : Nat → Prop), gC ZZ p s m args meth c D tys A cc ws y.cls maxL ret → (∀ x ∈ c.exceptionTable.toList, False) → gG p l e rm s m args below meth c D tys A maxL (vx_MQ below (va_Qq (fun (r' : Option Nat) (u : S) => (∃ j, r' = some (AD j) ∧ Sum.inr j = r) ∧ u = σ') (gAt D tys Wf A) A) (vx_X (fun u : S => u = σ') (fun (E9 : String) (u : S) (t : State) => Sum.inl E9 = r ∧ gAt D tys Wf A u t) A) args s mcq msq A) (Wf σ) 0 0 0 (lv_args 0 av) []) : xR ZZ D tys l y ws rm AD Wf av σ r σ' mcq msq := by
  intro sz
  refine vx_ofW (cc := cc) (maxL := maxL) (ret := ret) hy hw ?_
  intro p e s m args below meth c s₁ B hml hx0 hv
  have hsz : s.heap.size = sz := hv.2.1
  subst hsz
  exact gBody hw hlen B hml hv rfl (fun X => body p e s m args below meth c _ X hx0)
end BB
section EE
variable {p : Program} {l : Launch} {e : Env} {R : Room} {s : State} {m : MethodId} {args : Array Value} {below : List Frame} {meth : Method} {c : Code} {D : va_G} {tys : List (ClassId × FieldType)} {A : Nat → Prop} {nL : Nat} {Q : State → Prop} {cc : ByteArray} {Ts : List Cond} {own : String} {ret : Option FieldType} {ZZ : (Nat → Prop) → State → Heap → Prop}
variable {k n pc : Nat} {lv : List (Nat × Value)} {st : List Value} {S : Type} {Wf : S → va_W} {u : S}

theorem g_iret (X : gC ZZ p s m args meth c D tys A cc Ts own nL (some .int))  {post : Int32 → S → Prop} {v : Int32} (hpost : post v u) (hdg : decode cc pc = .ok (.ireturn, 1)) : gG p l e R s m args below meth c D tys A nL (MQ below (va_Qi post (gAt D tys Wf A) A) args s k n A) (Wf u) k n pc lv [.int v] := by
  intro H locs ls hP hD hSs hl0
  exact W.iret X.1.1 X.1.2.1 X.2.2.2.2.1 (fun t ht hW => ⟨⟨v, u, rfl, hpost, by rw [ht]; exact hP, va_K.moved hW.alike X.2.1, hD⟩, hSs.F ht⟩) hSs.2.2 hdg (hlocks := X.2.2.2.2.2)
theorem g_lret (X : gC ZZ p s m args meth c D tys A cc Ts own nL (some .long))  {post : Int64 → S → Prop} {v : Int64} (hpost : post v u) (hdg : decode cc pc = .ok (.lreturn, 1)) : gG p l e R s m args below meth c D tys A nL (MQ below (va_Ql post (gAt D tys Wf A) A) args s k n A) (Wf u) k n pc lv [.long v] := by
  intro H locs ls hP hD hSs hl0
  exact W.lret X.1.1 X.1.2.1 X.2.2.2.2.1 (fun t ht hW => ⟨⟨v, u, rfl, hpost, by rw [ht]; exact hP, va_K.moved hW.alike X.2.1, hD⟩, hSs.F ht⟩) hSs.2.2 hdg (hlocks := X.2.2.2.2.2)
theorem g_fret (X : gC ZZ p s m args meth c D tys A cc Ts own nL (some .float))  {post : UInt32 → S → Prop} {v : UInt32} (hpost : post v u) (hdg : decode cc pc = .ok (.freturn, 1)) : gG p l e R s m args below meth c D tys A nL (MQ below (va_Qf post (gAt D tys Wf A) A) args s k n A) (Wf u) k n pc lv [.float v] := by
  intro H locs ls hP hD hSs hl0
  exact W.fret X.1.1 X.1.2.1 X.2.2.2.2.1 (fun t ht hW => ⟨⟨v, u, rfl, hpost, by rw [ht]; exact hP, va_K.moved hW.alike X.2.1, hD⟩, hSs.F ht⟩) hSs.2.2 hdg (hlocks := X.2.2.2.2.2)
theorem g_dret (X : gC ZZ p s m args meth c D tys A cc Ts own nL (some .double))  {post : UInt64 → S → Prop} {v : UInt64} (hpost : post v u) (hdg : decode cc pc = .ok (.dreturn, 1)) : gG p l e R s m args below meth c D tys A nL (MQ below (va_Qd post (gAt D tys Wf A) A) args s k n A) (Wf u) k n pc lv [.double v] := by
  intro H locs ls hP hD hSs hl0
  exact W.dret X.1.1 X.1.2.1 X.2.2.2.2.1 (fun t ht hW => ⟨⟨v, u, rfl, hpost, by rw [ht]; exact hP, va_K.moved hW.alike X.2.1, hD⟩, hSs.F ht⟩) hSs.2.2 hdg (hlocks := X.2.2.2.2.2)
theorem g_zret {fty : FieldType} (X : gC ZZ p s m args meth c D tys A cc Ts own nL (some fty)) {v : Int32} (hn : narrow fty (.int v) = .int v) {post : Int32 → S → Prop}  (hpost : post v u) (hdg : decode cc pc = .ok (.ireturn, 1)) : gG p l e R s m args below meth c D tys A nL (MQ below (va_Qi post (gAt D tys Wf A) A) args s k n A) (Wf u) k n pc lv [.int v] := by
  intro H locs ls hP hD hSs hl0
  exact W.zret X.1.1 X.1.2.1 X.2.2.2.2.1 hn (fun t ht hW => ⟨⟨v, u, rfl, hpost, by rw [ht]; exact hP, va_K.moved hW.alike X.2.1, hD⟩, hSs.F ht⟩) hSs.2.2 hdg (hlocks := X.2.2.2.2.2)
theorem g_vret (X : gC ZZ p s m args meth c D tys A cc Ts own nL none) {post : S → Prop} (hpost : post u) (hdg : decode cc pc = .ok (.return_, 1)) : gG p l e R s m args below meth c D tys A nL (MQ below (va_Qv post (gAt D tys Wf A) A) args s k n A) (Wf u) k n pc lv [] := by
  intro H locs ls hP hD hSs hl0
  exact W.vret X.1.1 X.1.2.1 X.2.2.2.2.1 (fun t ht hW => ⟨⟨u, rfl, hpost, by rw [ht]; exact hP, va_K.moved hW.alike X.2.1, hD⟩, hSs.F ht⟩) hSs.2.2 hdg (hlocks := X.2.2.2.2.2)
theorem g_aret {rt : FieldType} (X : gC ZZ p s m args meth c D tys A cc Ts own nL (some rt)) (hrt : (∃ n, rt = .object n) ∨ ∃ t, rt = .array t) {post : Option Nat → S → Prop} {a9 : Nat} (hpost : post (some a9) u) (hdg : decode cc pc = .ok (.areturn, 1)) : gG p l e R s m args below meth c D tys A nL (MQ below (va_Qq post (gAt D tys Wf A) A) args s k n A) (Wf u) k n pc lv [.ref a9] := by
  intro H locs ls hP hD hSs hl0
  exact W.aret (v := .ref a9) X.1.1 X.1.2.1 X.2.2.2.2.1 hrt (Or.inr ⟨a9, rfl⟩) (fun t ht hW => ⟨⟨some a9, u, rfl, hpost, by rw [ht]; exact hP, va_K.moved hW.alike X.2.1, hD⟩, hSs.F ht⟩) hSs.2.2 hdg (hlocks := X.2.2.2.2.2)
theorem g_xret {Qc : Array Value → State → Outcome → State → Prop} {XC : String → State → State → Prop} {mcq msq : Nat} {ws9 : va_W} (h : gG p l e R s m args below meth c D tys A nL (MQ below Qc args s mcq msq A) ws9 k n pc lv st) : gG p l e R s m args below meth c D tys A nL (vx_MQ below Qc XC args s mcq msq A) ws9 k n pc lv st := fun H locs ls hP hD hSs hl0 => vx_ret (h H locs ls hP hD hSs hl0)
variable {σ σ' : S}
theorem g_afterI (X : gC ZZ p s m args meth c D tys A cc Ts own nL ret) {r : Int32} {st0 : List Value} {a9 : Array Value} (hrun : ∀ (H : Heap) (locs : List Loc) (ls : Array Slot), va_P D vwCl (Wf σ) H → va_D A (Wf σ) → va_S A s.heap H locs → lv_has ls nL lv → va_Run p l e R s m args below meth c H locs k n 0 0 (F0 m pc ls st0) st (va_Qi (fun (r' : Int32) (u : S) => r' = r ∧ u = σ') (gAt D tys Wf (va_A (Wf σ) H.size)) (va_A (Wf σ) H.size) a9) (va_A (Wf σ) H.size))
    (kk : gG p l e R s m args below meth c D tys A nL Q (Wf σ') k n (pc + 3) lv (.int r :: st)) : gG p l e R s m args below meth c D tys A nL Q (Wf σ) k n pc lv st0 := by
  intro H locs ls hP hD hSs hl0
  have hF : ∀ q, va_A (Wf σ) H.size q → A q := by
    intro q hq
    rcases hq with ⟨k, e, h⟩ | h
    · exact hD.2 k _ h
    · exact X.2.2.1 q (Nat.le_trans hSs.1 h)
  refine va_calli (hrun H locs ls hP hD hSs hl0) hSs (fun q _ h => hF q h) hF (fun r1 u1 t H1 locs1 ht hvm hw hBb hz1 hk1 hS1 => ?_)
  obtain ⟨rfl, rfl⟩ := hw
  obtain ⟨hP1, -, hD1⟩ := hBb
  rw [ht] at hP1
  exact kk H1 locs1 ls hP1 (hD1.weaken (fun k9 qz9 h9 _ => hF _ (hD1.2 k9 qz9 h9))) hS1 hl0
theorem g_afterL (X : gC ZZ p s m args meth c D tys A cc Ts own nL ret) {r : Int64} {st0 : List Value} {a9 : Array Value} (hrun : ∀ (H : Heap) (locs : List Loc) (ls : Array Slot), va_P D vwCl (Wf σ) H → va_D A (Wf σ) → va_S A s.heap H locs → lv_has ls nL lv → va_Run p l e R s m args below meth c H locs k n 0 0 (F0 m pc ls st0) st (va_Ql (fun (r' : Int64) (u : S) => r' = r ∧ u = σ') (gAt D tys Wf (va_A (Wf σ) H.size)) (va_A (Wf σ) H.size) a9) (va_A (Wf σ) H.size))
    (kk : gG p l e R s m args below meth c D tys A nL Q (Wf σ') k n (pc + 3) lv (.long r :: st)) : gG p l e R s m args below meth c D tys A nL Q (Wf σ) k n pc lv st0 := by
  intro H locs ls hP hD hSs hl0
  have hF : ∀ q, va_A (Wf σ) H.size q → A q := by
    intro q hq
    rcases hq with ⟨k, e, h⟩ | h
    · exact hD.2 k _ h
    · exact X.2.2.1 q (Nat.le_trans hSs.1 h)
  refine va_calll (hrun H locs ls hP hD hSs hl0) hSs (fun q _ h => hF q h) hF (fun r1 u1 t H1 locs1 ht hvm hw hBb hz1 hk1 hS1 => ?_)
  obtain ⟨rfl, rfl⟩ := hw
  obtain ⟨hP1, -, hD1⟩ := hBb
  rw [ht] at hP1
  exact kk H1 locs1 ls hP1 (hD1.weaken (fun k9 qz9 h9 _ => hF _ (hD1.2 k9 qz9 h9))) hS1 hl0
theorem g_afterF (X : gC ZZ p s m args meth c D tys A cc Ts own nL ret) {r : UInt32} {st0 : List Value} {a9 : Array Value} (hrun : ∀ (H : Heap) (locs : List Loc) (ls : Array Slot), va_P D vwCl (Wf σ) H → va_D A (Wf σ) → va_S A s.heap H locs → lv_has ls nL lv → va_Run p l e R s m args below meth c H locs k n 0 0 (F0 m pc ls st0) st (va_Qf (fun (r' : UInt32) (u : S) => r' = r ∧ u = σ') (gAt D tys Wf (va_A (Wf σ) H.size)) (va_A (Wf σ) H.size) a9) (va_A (Wf σ) H.size))
    (kk : gG p l e R s m args below meth c D tys A nL Q (Wf σ') k n (pc + 3) lv (.float r :: st)) : gG p l e R s m args below meth c D tys A nL Q (Wf σ) k n pc lv st0 := by
  intro H locs ls hP hD hSs hl0
  have hF : ∀ q, va_A (Wf σ) H.size q → A q := by
    intro q hq
    rcases hq with ⟨k, e, h⟩ | h
    · exact hD.2 k _ h
    · exact X.2.2.1 q (Nat.le_trans hSs.1 h)
  refine va_callf (hrun H locs ls hP hD hSs hl0) hSs (fun q _ h => hF q h) hF (fun r1 u1 t H1 locs1 ht hvm hw hBb hz1 hk1 hS1 => ?_)
  obtain ⟨rfl, rfl⟩ := hw
  obtain ⟨hP1, -, hD1⟩ := hBb
  rw [ht] at hP1
  exact kk H1 locs1 ls hP1 (hD1.weaken (fun k9 qz9 h9 _ => hF _ (hD1.2 k9 qz9 h9))) hS1 hl0
theorem g_afterDd (X : gC ZZ p s m args meth c D tys A cc Ts own nL ret) {r : UInt64} {st0 : List Value} {a9 : Array Value} (hrun : ∀ (H : Heap) (locs : List Loc) (ls : Array Slot), va_P D vwCl (Wf σ) H → va_D A (Wf σ) → va_S A s.heap H locs → lv_has ls nL lv → va_Run p l e R s m args below meth c H locs k n 0 0 (F0 m pc ls st0) st (va_Qd (fun (r' : UInt64) (u : S) => r' = r ∧ u = σ') (gAt D tys Wf (va_A (Wf σ) H.size)) (va_A (Wf σ) H.size) a9) (va_A (Wf σ) H.size))
    (kk : gG p l e R s m args below meth c D tys A nL Q (Wf σ') k n (pc + 3) lv (.double r :: st)) : gG p l e R s m args below meth c D tys A nL Q (Wf σ) k n pc lv st0 := by
  intro H locs ls hP hD hSs hl0
  have hF : ∀ q, va_A (Wf σ) H.size q → A q := by
    intro q hq
    rcases hq with ⟨k, e, h⟩ | h
    · exact hD.2 k _ h
    · exact X.2.2.1 q (Nat.le_trans hSs.1 h)
  refine va_calld (hrun H locs ls hP hD hSs hl0) hSs (fun q _ h => hF q h) hF (fun r1 u1 t H1 locs1 ht hvm hw hBb hz1 hk1 hS1 => ?_)
  obtain ⟨rfl, rfl⟩ := hw
  obtain ⟨hP1, -, hD1⟩ := hBb
  rw [ht] at hP1
  exact kk H1 locs1 ls hP1 (hD1.weaken (fun k9 qz9 h9 _ => hF _ (hD1.2 k9 qz9 h9))) hS1 hl0
theorem g_afterV (X : gC ZZ p s m args meth c D tys A cc Ts own nL ret) {st0 : List Value} {a9 : Array Value} (hrun : ∀ (H : Heap) (locs : List Loc) (ls : Array Slot), va_P D vwCl (Wf σ) H → va_D A (Wf σ) → va_S A s.heap H locs → lv_has ls nL lv → va_Run p l e R s m args below meth c H locs k n 0 0 (F0 m pc ls st0) st (va_Qv (fun (u : S) => u = σ') (gAt D tys Wf (va_A (Wf σ) H.size)) (va_A (Wf σ) H.size) a9) (va_A (Wf σ) H.size))
    (kk : gG p l e R s m args below meth c D tys A nL Q (Wf σ') k n (pc + 3) lv st) : gG p l e R s m args below meth c D tys A nL Q (Wf σ) k n pc lv st0 := by
  intro H locs ls hP hD hSs hl0
  have hF : ∀ q, va_A (Wf σ) H.size q → A q := by
    intro q hq
    rcases hq with ⟨k, e, h⟩ | h
    · exact hD.2 k _ h
    · exact X.2.2.1 q (Nat.le_trans hSs.1 h)
  refine va_callv (hrun H locs ls hP hD hSs hl0) hSs (fun q _ h => hF q h) hF (fun u1 t H1 locs1 ht hvm hw hBb hz1 hk1 hS1 => ?_)
  subst hw
  obtain ⟨hP1, -, hD1⟩ := hBb
  rw [ht] at hP1
  exact kk H1 locs1 ls hP1 (hD1.weaken (fun k9 qz9 h9 _ => hF _ (hD1.2 k9 qz9 h9))) hS1 hl0
end EE
