/-! calls, the receiver by its role; the combinators of the functions -/
/-- the cells of a call: one if it throws -/
def thrC {α : Type} (r : String ⊕ α) : Nat := match r with
  | .inl _ => 1
  | .inr _ => 0
def thrS {α : Type} (r : String ⊕ α) : Nat := match r with
  | .inl _ => 6
  | .inr _ => 0
theorem thrC_r {α : Type} (a : α) (x : Nat) : 0 + thrC (Sum.inr a : String ⊕ α) ≤ x := Nat.zero_le x
theorem thrS_r {α : Type} (a : α) (x : Nat) : 0 + thrS (Sum.inr a : String ⊕ α) ≤ x := Nat.zero_le x
theorem thrC_l {α β : Type} (E F : String) : 0 + thrC (Sum.inl E : String ⊕ α) ≤ thrC (Sum.inl F : String ⊕ β) := Nat.le_refl 1
theorem thrS_l {α β : Type} (E F : String) : 0 + thrS (Sum.inl E : String ⊕ α) ≤ thrS (Sum.inl F : String ⊕ β) := Nat.le_refl 6
theorem thrC_t {β : Type} (F : String) : 0 + 1 ≤ thrC (Sum.inl F : String ⊕ β) := Nat.le_refl 1
theorem thrS_t {β : Type} (F : String) : 0 + 6 ≤ thrS (Sum.inl F : String ⊕ β) := Nat.le_refl 6
theorem thrC_k {α : Type} (a : α) (k : Nat) : k + thrC (Sum.inr a : String ⊕ α) ≤ k := Nat.le_refl k
theorem thrS_k {α : Type} (a : α) (k : Nat) : k + thrS (Sum.inr a : String ⊕ α) ≤ k := Nat.le_refl k
theorem nar01 {v : Int32} (h : ¬ ¬ (v = 0 ∨ v = 1)) : narrow .boolean (.int v) = .int v := by
  rcases Classical.not_not.mp h with rfl | rfl <;> rfl
theorem i32ne {x k : Int32} (h : ¬ x = k) : x.toInt ≠ k.toInt := fun e => h (Int32.toInt_inj.mp e)
theorem vy_callq {p : Program} {l : Launch} {e : Env} {R : Room} {s : State} {m : MethodId} {args : Array Value} {below : List Frame} {meth : Method} {c : Code} {H : Heap} {locs : List Loc} {cells slots : Nat} {Q : State → Prop} {mcq msq : Nat} {free : Addr → Prop} {A0 A1 : Nat → Prop} {H0 : Heap} {a : Array Value} {pc : Nat} {ls : Array Slot} {st0 rest : List Value} {S SX : Type} {post : Option Nat → S → Prop} {px : SX → Prop} {B : S → State → Prop} {BX : String → SX → State → Prop} {AX : Nat → Prop} (hr : vx_Run p l e R s m args below meth c H locs cells slots mcq msq (F0 m pc ls st0) rest (va_Qq post B A1 a) (vx_X px BX AX) free) (hSs : va_S A0 H0 H locs) (hA : ∀ q, q < H.size → A1 q → A0 q) (hf : ∀ q, free q → A0 q) (hAX : ∀ q, q < H.size → AX q → A0 q)
    (kx : ∀ (E : String) (ce : Cell) (qz9 : Addr) (u : SX) (t : State) (H1 : Heap) (locs1 : List Loc), t.heap = H1 → s.vm.Alike t.vm → px u → BX E u t → H.size ≤ H1.size → (∀ q : Nat, q < H.size → ¬ AX q → H1[q]? = H[q]?) → va_S A0 H0 H1 locs1 → H1[qz9]? = some ce → ce.vm = .none → s.vm.findClass E = some ce.cls → vx_W p l e R s m args below meth c H1 locs1 (cells + mcq) (slots + msq) Q (F0 m pc ls rest) qz9)
    (kk : ∀ (r : Option Nat) (u : S) (t : State) (H1 : Heap) (locs1 : List Loc), t.heap = H1 → s.vm.Alike t.vm → post r u → B u t → H.size ≤ H1.size → (∀ q : Nat, q < H.size → ¬ A1 q → H1[q]? = H[q]?) → va_S A0 H0 H1 locs1 → W p l e R s m args below meth c H1 locs1 (cells + mcq) (slots + msq) Q (F0 m (pc + 3) ls (va_rf r :: rest))) : W p l e R s m args below meth c H locs cells slots Q (F0 m pc ls st0) := by
  intro T hTt X
  rcases hr T hTt X with ⟨v, st₀, t, T', L, h0, X', hL, ez1, ez2, ⟨⟨r, u, hv, hp, hb⟩, hF⟩, st⟩ | ⟨q, st₀, t, T', L, E, ce, h0, X', hL, ez1, ez2, ⟨u, hp, hb, hF⟩, hce, hcv, hcl, st⟩
  · cases hv
    obtain ⟨k1, k2, k3⟩ := vx_keep h0 ez1 hSs hA hf hL hF
    obtain ⟨t2, a1, b1⟩ := kk r u t T'.heap (locs ++ L) ez1.symm (by rw [← ez2]; exact X'.warmed.alike) hp hb k1 k2 k3 T' rfl X'
    exact ⟨t2, st t2 a1, b1⟩
  · obtain ⟨k1, k2, k3⟩ := vx_keep h0 ez1 hSs hAX hf hL hF
    obtain ⟨t2, a1, b1⟩ := kx E ce q u t T'.heap (locs ++ L) ez1.symm (by rw [← ez2]; exact X'.warmed.alike) hp hb k1 k2 k3 (by rw [ez1]; exact hce) hcv hcl T' rfl X'
    exact ⟨t2, st.trans a1, b1⟩
section CCq
variable {p : Program} {l : Launch} {e : Env} {R : Room} {s : State} {m : MethodId} {args : Array Value} {below : List Frame} {meth : Method} {c : Code} {D : va_G} {tys : List (ClassId × FieldType)} {A : Nat → Prop} {nL : Nat} {Q : State → Prop} {cc : ByteArray} {Ts : List Cond} {own : String} {ret : Option FieldType} {ZZ : (Nat → Prop) → State → Heap → Prop}
variable {k n pc : Nat} {lv : List (Nat × Value)} {st st0 : List Value} {AD : Nat → Nat} {E : St → Nat → va_E} {L : List Nat} {X9 : va_W} {σ σ' : St}
variable {y2 : MethodName} {ws2 : List Cond} {rm2 : Room} {bytes : ByteArray} {maxL2 index nA : Nat} {ret2 : Option FieldType} {C : String} {T : u_T} {N ci j : Nat} {fs : List Value} {As : List Value}

theorem g_callVI (X : gC ZZ p s m args meth c D tys A cc Ts own nL ret) (hzz : gZ ZZ) {r : Int32} (hMm : mI ZZ D tys l y2 ws2 rm2 (wF AD E L X9) (.ref (AD j) :: As) σ r σ') (cw : CallW R s args own C index y2 bytes maxL2 ret2 ws2 rm2 0 0 nA) (hst : st0 = As.reverse ++ .ref (AD j) :: st) (hj : j ∈ L) (he : E σ j = .inr (ci, fs)) (hcq : vwCl[ci]? = some (C, T, N)) (hn : As.length = nA) (hcat : (st.map fun v => v.category).sum ≤ 8) (hkn : k ≤ R.cells ∧ n ≤ R.slots) (hdg : decode cc pc = .ok (.invokevirtual index, 3)) (kk : gG p l e R s m args below meth c D tys A nL Q (wF AD E L X9 σ') k n (pc + 3) lv (.int r :: st)) : gG p l e R s m args below meth c D tys A nL Q (wF AD E L X9 σ) k n pc lv st0 := by
  subst hst
  refine g_afterI (Wf := wF AD E L X9) (σ' := σ') (a9 := (Value.ref (AD j) :: As).toArray) X (fun H locs ls hP hD hSs hl0 => ?_) kk
  obtain ⟨q, hq⟩ := wF_get (A := AD) (E := E) (X := X9) (σ := σ) hj
  rw [he] at hq
  exact va_runV X.1 (hMm H.size) cw ⟨gPre_blind hzz, va_recv X.2.1 hP hcq hq, (gPre_of hzz X.2.1 X.2.2.1 X.2.2.2.1 hP hD hSs).2⟩ rfl hn hl0.1 rfl (lv_room hcat) hdg hkn
theorem g_callSI (X : gC ZZ p s m args meth c D tys A cc Ts own nL ret) (hzz : gZ ZZ) {r : Int32} (hMm : mI ZZ D tys l y2 ws2 rm2 (wF AD E L X9) As σ r σ') (cw : CallB R s args own index y2 bytes maxL2 ret2 ws2 rm2 0 0 nA ∧ (Cond.static y2).before args s = true) (hst : st0 = As.reverse ++ st) (hn : As.length = nA) (hcat : (st.map fun v => v.category).sum ≤ 8) (hkn : k ≤ R.cells ∧ n ≤ R.slots) (hdg : decode cc pc = .ok (.invokestatic index, 3)) (kk : gG p l e R s m args below meth c D tys A nL Q (wF AD E L X9 σ') k n (pc + 3) lv (.int r :: st)) : gG p l e R s m args below meth c D tys A nL Q (wF AD E L X9 σ) k n pc lv st0 := by
  subst hst
  refine g_afterI (Wf := wF AD E L X9) (σ' := σ') (a9 := As.toArray) X (fun H locs ls hP hD hSs hl0 => ?_) kk
  exact va_runS X.1 (hMm H.size) cw ⟨gPre_blind hzz, (gPre_of hzz X.2.1 X.2.2.1 X.2.2.2.1 hP hD hSs).2⟩ rfl hn hl0.1 rfl (lv_room hcat) hdg hkn
theorem g_callNI (X : gC ZZ p s m args meth c D tys A cc Ts own nL ret) (hzz : gZ ZZ) {r : Int32} {host : String} (hMm : mI ZZ D tys l y2 ws2 rm2 (wF AD E L X9) As σ r σ') (cw : va_CN R s args own index y2 host bytes maxL2 ret2 ws2 rm2 0 0 nA ∧ (Cond.static y2).before args s = true ∧ True) (hst : st0 = As.reverse ++ st) (hn : As.length = nA) (hcat : (st.map fun v => v.category).sum ≤ 8) (hkn : k ≤ R.cells ∧ n ≤ R.slots) (hdg : decode cc pc = .ok (.invokestatic index, 3)) (kk : gG p l e R s m args below meth c D tys A nL Q (wF AD E L X9 σ') k n (pc + 3) lv (.int r :: st)) : gG p l e R s m args below meth c D tys A nL Q (wF AD E L X9 σ) k n pc lv st0 := by
  subst hst
  refine g_afterI (Wf := wF AD E L X9) (σ' := σ') (a9 := As.toArray) X (fun H locs ls hP hD hSs hl0 => ?_) kk
  exact va_runSN X.1 (hMm H.size) cw ⟨gPre_blind hzz, (gPre_of hzz X.2.1 X.2.2.1 X.2.2.2.1 hP hD hSs).2⟩ rfl hn hl0.1 rfl (lv_room hcat) hdg hkn
theorem g_callVL (X : gC ZZ p s m args meth c D tys A cc Ts own nL ret) (hzz : gZ ZZ) {r : Int64} (hMm : mL ZZ D tys l y2 ws2 rm2 (wF AD E L X9) (.ref (AD j) :: As) σ r σ') (cw : CallW R s args own C index y2 bytes maxL2 ret2 ws2 rm2 0 0 nA) (hst : st0 = As.reverse ++ .ref (AD j) :: st) (hj : j ∈ L) (he : E σ j = .inr (ci, fs)) (hcq : vwCl[ci]? = some (C, T, N)) (hn : As.length = nA) (hcat : (st.map fun v => v.category).sum ≤ 8) (hkn : k ≤ R.cells ∧ n ≤ R.slots) (hdg : decode cc pc = .ok (.invokevirtual index, 3)) (kk : gG p l e R s m args below meth c D tys A nL Q (wF AD E L X9 σ') k n (pc + 3) lv (.long r :: st)) : gG p l e R s m args below meth c D tys A nL Q (wF AD E L X9 σ) k n pc lv st0 := by
  subst hst
  refine g_afterL (Wf := wF AD E L X9) (σ' := σ') (a9 := (Value.ref (AD j) :: As).toArray) X (fun H locs ls hP hD hSs hl0 => ?_) kk
  obtain ⟨q, hq⟩ := wF_get (A := AD) (E := E) (X := X9) (σ := σ) hj
  rw [he] at hq
  exact va_runV X.1 (hMm H.size) cw ⟨gPre_blind hzz, va_recv X.2.1 hP hcq hq, (gPre_of hzz X.2.1 X.2.2.1 X.2.2.2.1 hP hD hSs).2⟩ rfl hn hl0.1 rfl (lv_room hcat) hdg hkn
theorem g_callSL (X : gC ZZ p s m args meth c D tys A cc Ts own nL ret) (hzz : gZ ZZ) {r : Int64} (hMm : mL ZZ D tys l y2 ws2 rm2 (wF AD E L X9) As σ r σ') (cw : CallB R s args own index y2 bytes maxL2 ret2 ws2 rm2 0 0 nA ∧ (Cond.static y2).before args s = true) (hst : st0 = As.reverse ++ st) (hn : As.length = nA) (hcat : (st.map fun v => v.category).sum ≤ 8) (hkn : k ≤ R.cells ∧ n ≤ R.slots) (hdg : decode cc pc = .ok (.invokestatic index, 3)) (kk : gG p l e R s m args below meth c D tys A nL Q (wF AD E L X9 σ') k n (pc + 3) lv (.long r :: st)) : gG p l e R s m args below meth c D tys A nL Q (wF AD E L X9 σ) k n pc lv st0 := by
  subst hst
  refine g_afterL (Wf := wF AD E L X9) (σ' := σ') (a9 := As.toArray) X (fun H locs ls hP hD hSs hl0 => ?_) kk
  exact va_runS X.1 (hMm H.size) cw ⟨gPre_blind hzz, (gPre_of hzz X.2.1 X.2.2.1 X.2.2.2.1 hP hD hSs).2⟩ rfl hn hl0.1 rfl (lv_room hcat) hdg hkn
theorem g_callVF (X : gC ZZ p s m args meth c D tys A cc Ts own nL ret) (hzz : gZ ZZ) {r : UInt32} (hMm : mF ZZ D tys l y2 ws2 rm2 (wF AD E L X9) (.ref (AD j) :: As) σ r σ') (cw : CallW R s args own C index y2 bytes maxL2 ret2 ws2 rm2 0 0 nA) (hst : st0 = As.reverse ++ .ref (AD j) :: st) (hj : j ∈ L) (he : E σ j = .inr (ci, fs)) (hcq : vwCl[ci]? = some (C, T, N)) (hn : As.length = nA) (hcat : (st.map fun v => v.category).sum ≤ 8) (hkn : k ≤ R.cells ∧ n ≤ R.slots) (hdg : decode cc pc = .ok (.invokevirtual index, 3)) (kk : gG p l e R s m args below meth c D tys A nL Q (wF AD E L X9 σ') k n (pc + 3) lv (.float r :: st)) : gG p l e R s m args below meth c D tys A nL Q (wF AD E L X9 σ) k n pc lv st0 := by
  subst hst
  refine g_afterF (Wf := wF AD E L X9) (σ' := σ') (a9 := (Value.ref (AD j) :: As).toArray) X (fun H locs ls hP hD hSs hl0 => ?_) kk
  obtain ⟨q, hq⟩ := wF_get (A := AD) (E := E) (X := X9) (σ := σ) hj
  rw [he] at hq
  exact va_runV X.1 (hMm H.size) cw ⟨gPre_blind hzz, va_recv X.2.1 hP hcq hq, (gPre_of hzz X.2.1 X.2.2.1 X.2.2.2.1 hP hD hSs).2⟩ rfl hn hl0.1 rfl (lv_room hcat) hdg hkn
theorem g_callSF (X : gC ZZ p s m args meth c D tys A cc Ts own nL ret) (hzz : gZ ZZ) {r : UInt32} (hMm : mF ZZ D tys l y2 ws2 rm2 (wF AD E L X9) As σ r σ') (cw : CallB R s args own index y2 bytes maxL2 ret2 ws2 rm2 0 0 nA ∧ (Cond.static y2).before args s = true) (hst : st0 = As.reverse ++ st) (hn : As.length = nA) (hcat : (st.map fun v => v.category).sum ≤ 8) (hkn : k ≤ R.cells ∧ n ≤ R.slots) (hdg : decode cc pc = .ok (.invokestatic index, 3)) (kk : gG p l e R s m args below meth c D tys A nL Q (wF AD E L X9 σ') k n (pc + 3) lv (.float r :: st)) : gG p l e R s m args below meth c D tys A nL Q (wF AD E L X9 σ) k n pc lv st0 := by
  subst hst
  refine g_afterF (Wf := wF AD E L X9) (σ' := σ') (a9 := As.toArray) X (fun H locs ls hP hD hSs hl0 => ?_) kk
  exact va_runS X.1 (hMm H.size) cw ⟨gPre_blind hzz, (gPre_of hzz X.2.1 X.2.2.1 X.2.2.2.1 hP hD hSs).2⟩ rfl hn hl0.1 rfl (lv_room hcat) hdg hkn
theorem g_callVDd (X : gC ZZ p s m args meth c D tys A cc Ts own nL ret) (hzz : gZ ZZ) {r : UInt64} (hMm : mDd ZZ D tys l y2 ws2 rm2 (wF AD E L X9) (.ref (AD j) :: As) σ r σ') (cw : CallW R s args own C index y2 bytes maxL2 ret2 ws2 rm2 0 0 nA) (hst : st0 = As.reverse ++ .ref (AD j) :: st) (hj : j ∈ L) (he : E σ j = .inr (ci, fs)) (hcq : vwCl[ci]? = some (C, T, N)) (hn : As.length = nA) (hcat : (st.map fun v => v.category).sum ≤ 8) (hkn : k ≤ R.cells ∧ n ≤ R.slots) (hdg : decode cc pc = .ok (.invokevirtual index, 3)) (kk : gG p l e R s m args below meth c D tys A nL Q (wF AD E L X9 σ') k n (pc + 3) lv (.double r :: st)) : gG p l e R s m args below meth c D tys A nL Q (wF AD E L X9 σ) k n pc lv st0 := by
  subst hst
  refine g_afterDd (Wf := wF AD E L X9) (σ' := σ') (a9 := (Value.ref (AD j) :: As).toArray) X (fun H locs ls hP hD hSs hl0 => ?_) kk
  obtain ⟨q, hq⟩ := wF_get (A := AD) (E := E) (X := X9) (σ := σ) hj
  rw [he] at hq
  exact va_runV X.1 (hMm H.size) cw ⟨gPre_blind hzz, va_recv X.2.1 hP hcq hq, (gPre_of hzz X.2.1 X.2.2.1 X.2.2.2.1 hP hD hSs).2⟩ rfl hn hl0.1 rfl (lv_room hcat) hdg hkn
theorem g_callSDd (X : gC ZZ p s m args meth c D tys A cc Ts own nL ret) (hzz : gZ ZZ) {r : UInt64} (hMm : mDd ZZ D tys l y2 ws2 rm2 (wF AD E L X9) As σ r σ') (cw : CallB R s args own index y2 bytes maxL2 ret2 ws2 rm2 0 0 nA ∧ (Cond.static y2).before args s = true) (hst : st0 = As.reverse ++ st) (hn : As.length = nA) (hcat : (st.map fun v => v.category).sum ≤ 8) (hkn : k ≤ R.cells ∧ n ≤ R.slots) (hdg : decode cc pc = .ok (.invokestatic index, 3)) (kk : gG p l e R s m args below meth c D tys A nL Q (wF AD E L X9 σ') k n (pc + 3) lv (.double r :: st)) : gG p l e R s m args below meth c D tys A nL Q (wF AD E L X9 σ) k n pc lv st0 := by
  subst hst
  refine g_afterDd (Wf := wF AD E L X9) (σ' := σ') (a9 := As.toArray) X (fun H locs ls hP hD hSs hl0 => ?_) kk
  exact va_runS X.1 (hMm H.size) cw ⟨gPre_blind hzz, (gPre_of hzz X.2.1 X.2.2.1 X.2.2.2.1 hP hD hSs).2⟩ rfl hn hl0.1 rfl (lv_room hcat) hdg hkn
theorem g_callVV (X : gC ZZ p s m args meth c D tys A cc Ts own nL ret) (hzz : gZ ZZ)  (hMm : mV ZZ D tys l y2 ws2 rm2 (wF AD E L X9) (.ref (AD j) :: As) σ σ') (cw : CallW R s args own C index y2 bytes maxL2 ret2 ws2 rm2 0 0 nA) (hst : st0 = As.reverse ++ .ref (AD j) :: st) (hj : j ∈ L) (he : E σ j = .inr (ci, fs)) (hcq : vwCl[ci]? = some (C, T, N)) (hn : As.length = nA) (hcat : (st.map fun v => v.category).sum ≤ 8) (hkn : k ≤ R.cells ∧ n ≤ R.slots) (hdg : decode cc pc = .ok (.invokevirtual index, 3)) (kk : gG p l e R s m args below meth c D tys A nL Q (wF AD E L X9 σ') k n (pc + 3) lv st) : gG p l e R s m args below meth c D tys A nL Q (wF AD E L X9 σ) k n pc lv st0 := by
  subst hst
  refine g_afterV (Wf := wF AD E L X9) (σ' := σ') (a9 := (Value.ref (AD j) :: As).toArray) X (fun H locs ls hP hD hSs hl0 => ?_) kk
  obtain ⟨q, hq⟩ := wF_get (A := AD) (E := E) (X := X9) (σ := σ) hj
  rw [he] at hq
  exact va_runV X.1 (hMm H.size) cw ⟨gPre_blind hzz, va_recv X.2.1 hP hcq hq, (gPre_of hzz X.2.1 X.2.2.1 X.2.2.2.1 hP hD hSs).2⟩ rfl hn hl0.1 rfl (lv_room hcat) hdg hkn
theorem g_callSV (X : gC ZZ p s m args meth c D tys A cc Ts own nL ret) (hzz : gZ ZZ)  (hMm : mV ZZ D tys l y2 ws2 rm2 (wF AD E L X9) As σ σ') (cw : CallB R s args own index y2 bytes maxL2 ret2 ws2 rm2 0 0 nA ∧ (Cond.static y2).before args s = true) (hst : st0 = As.reverse ++ st) (hn : As.length = nA) (hcat : (st.map fun v => v.category).sum ≤ 8) (hkn : k ≤ R.cells ∧ n ≤ R.slots) (hdg : decode cc pc = .ok (.invokestatic index, 3)) (kk : gG p l e R s m args below meth c D tys A nL Q (wF AD E L X9 σ') k n (pc + 3) lv st) : gG p l e R s m args below meth c D tys A nL Q (wF AD E L X9 σ) k n pc lv st0 := by
  subst hst
  refine g_afterV (Wf := wF AD E L X9) (σ' := σ') (a9 := As.toArray) X (fun H locs ls hP hD hSs hl0 => ?_) kk
  exact va_runS X.1 (hMm H.size) cw ⟨gPre_blind hzz, (gPre_of hzz X.2.1 X.2.2.1 X.2.2.2.1 hP hD hSs).2⟩ rfl hn hl0.1 rfl (lv_room hcat) hdg hkn
variable {mcq msq : Nat} {k' n' : Nat}
theorem g_xVV_ret (X : gC ZZ p s m args meth c D tys A cc Ts own nL ret) (hzz : gZ ZZ)  (hMm : xV ZZ D tys l y2 ws2 rm2 (wF AD E L X9) (.ref (AD j) :: As) σ (.inr ()) σ' mcq msq) (cw : CallW R s args own C index y2 bytes maxL2 ret2 ws2 rm2 mcq msq nA) (hst : st0 = As.reverse ++ .ref (AD j) :: st) (hj : j ∈ L) (he : E σ j = .inr (ci, fs)) (hcq : vwCl[ci]? = some (C, T, N)) (hn : As.length = nA) (hcat : (st.map fun v => v.category).sum ≤ 8) (hkn : k + mcq ≤ R.cells ∧ n + msq ≤ R.slots) (hdg : decode cc pc = .ok (.invokevirtual index, 3)) (hk : k + mcq ≤ k') (hn' : n + msq ≤ n') (kk : gG p l e R s m args below meth c D tys A nL Q (wF AD E L X9 σ') k' n' (pc + 3) lv st) : gG p l e R s m args below meth c D tys A nL Q (wF AD E L X9 σ) k n pc lv st0 := by
  subst hst
  intro H locs ls hP hD hSs hl0
  obtain ⟨q, hq⟩ := wF_get (A := AD) (E := E) (X := X9) (σ := σ) hj
  rw [he] at hq
  have hF := (gPre_of (av := []) hzz X.2.1 X.2.2.1 X.2.2.2.1 hP hD hSs).1
  refine vx_callv (vx_runV X.1 (hMm H.size) cw ⟨gPre_blind hzz, va_recv X.2.1 hP hcq hq, (gPre_of hzz X.2.1 X.2.2.1 X.2.2.2.1 hP hD hSs).2⟩ rfl hn hl0.1 rfl (lv_room hcat) hdg hkn) hSs (fun q _ h => hF q h) hF (fun q _ h => hF q h) (fun E9 ce qz9 u t H1 locs1 ht hvm hpx hBb hz hk1 hS1 hce hcv hcl => ?_) (fun u1 t H1 locs1 ht hvm hw hBb hz1 hk1 hS1 => ?_)
  · exact nomatch hBb.1
  · obtain ⟨-, rfl⟩ := hw
    obtain ⟨hP1, -, hD1⟩ := hBb
    rw [ht] at hP1
    exact W.widen hk hn' (kk H1 locs1 ls hP1 (hD1.weaken (fun k9 qz9 h9 _ => hF _ (hD1.2 k9 qz9 h9))) hS1 hl0)
theorem g_xVV_thr (X : gC ZZ p s m args meth c D tys A cc Ts own nL ret) (hzz : gZ ZZ) {γ : Type} {E0 : String} {r9 : String ⊕ γ} {σ9 : St} {mc9 ms9 : Nat} {Qc : Array Value → State → Outcome → State → Prop} (hx0 : ∀ x ∈ c.exceptionTable.toList, False) (hMm : xV ZZ D tys l y2 ws2 rm2 (wF AD E L X9) (.ref (AD j) :: As) σ (.inl E0) σ' mcq msq) (cw : CallW R s args own C index y2 bytes maxL2 ret2 ws2 rm2 mcq msq nA) (hst : st0 = As.reverse ++ .ref (AD j) :: st) (hj : j ∈ L) (he : E σ j = .inr (ci, fs)) (hcq : vwCl[ci]? = some (C, T, N)) (hn : As.length = nA) (hcat : (st.map fun v => v.category).sum ≤ 8) (hkn : k + mcq ≤ R.cells ∧ n + msq ≤ R.slots) (hdg : decode cc pc = .ok (.invokevirtual index, 3)) (hr9 : Sum.inl E0 = r9) (hσ9 : σ' = σ9) (hk : k + mcq ≤ mc9) (hn' : n + msq ≤ ms9) : gG p l e R s m args below meth c D tys A nL (vx_MQ below Qc (vx_X (fun u : St => u = σ9) (fun (E9 : String) (u : St) (t : State) => Sum.inl E9 = r9 ∧ gAt D tys (wF AD E L X9) A u t) A) args s mc9 ms9 A) (wF AD E L X9 σ) k n pc lv st0 := by
  subst hst
  subst hσ9
  intro H locs ls hP hD hSs hl0
  obtain ⟨q, hq⟩ := wF_get (A := AD) (E := E) (X := X9) (σ := σ) hj
  rw [he] at hq
  have hF := (gPre_of (av := []) hzz X.2.1 X.2.2.1 X.2.2.2.1 hP hD hSs).1
  refine vx_callv (vx_runV X.1 (hMm H.size) cw ⟨gPre_blind hzz, va_recv X.2.1 hP hcq hq, (gPre_of hzz X.2.1 X.2.2.1 X.2.2.2.1 hP hD hSs).2⟩ rfl hn hl0.1 rfl (lv_room hcat) hdg hkn) hSs (fun q _ h => hF q h) hF (fun q _ h => hF q h) (fun E9 ce qz9 u t H1 locs1 ht hvm hpx hBb hz hk1 hS1 hce hcv hcl => ?_) (fun u1 t H1 locs1 ht hvm hw hBb hz1 hk1 hS1 => ?_)
  · subst hpx
    obtain ⟨he9, hP1, -, hD1⟩ := hBb
    rw [ht] at hP1
    have he8 : E9 = E0 := Sum.inl.inj he9
    subst he8
    exact vx_out (fun x hx => absurd hx (fun hx => hx0 x hx)) X.2.2.2.2.2 hce hcv hcl (fun t2 ht2 hvm2 => ⟨u, rfl, ⟨hr9, by rw [ht2]; exact hP1, va_K.moved hvm2 X.2.1, hD1.weaken (fun k9 qz9 h9 _ => hF _ (hD1.2 k9 qz9 h9))⟩, hS1.F ht2⟩) hS1.2.2 hk hn'
  · exact nomatch hw.1
theorem g_xSV_ret (X : gC ZZ p s m args meth c D tys A cc Ts own nL ret) (hzz : gZ ZZ)  (hMm : xV ZZ D tys l y2 ws2 rm2 (wF AD E L X9) As σ (.inr ()) σ' mcq msq) (cw : CallB R s args own index y2 bytes maxL2 ret2 ws2 rm2 mcq msq nA ∧ (Cond.static y2).before args s = true) (hst : st0 = As.reverse ++ st) (hn : As.length = nA) (hcat : (st.map fun v => v.category).sum ≤ 8) (hkn : k + mcq ≤ R.cells ∧ n + msq ≤ R.slots) (hdg : decode cc pc = .ok (.invokestatic index, 3)) (hk : k + mcq ≤ k') (hn' : n + msq ≤ n') (kk : gG p l e R s m args below meth c D tys A nL Q (wF AD E L X9 σ') k' n' (pc + 3) lv st) : gG p l e R s m args below meth c D tys A nL Q (wF AD E L X9 σ) k n pc lv st0 := by
  subst hst
  intro H locs ls hP hD hSs hl0
  have hF := (gPre_of (av := []) hzz X.2.1 X.2.2.1 X.2.2.2.1 hP hD hSs).1
  refine vx_callv (vx_runS X.1 (hMm H.size) cw ⟨gPre_blind hzz, (gPre_of hzz X.2.1 X.2.2.1 X.2.2.2.1 hP hD hSs).2⟩ rfl hn hl0.1 rfl (lv_room hcat) hdg hkn) hSs (fun q _ h => hF q h) hF (fun q _ h => hF q h) (fun E9 ce qz9 u t H1 locs1 ht hvm hpx hBb hz hk1 hS1 hce hcv hcl => ?_) (fun u1 t H1 locs1 ht hvm hw hBb hz1 hk1 hS1 => ?_)
  · exact nomatch hBb.1
  · obtain ⟨-, rfl⟩ := hw
    obtain ⟨hP1, -, hD1⟩ := hBb
    rw [ht] at hP1
    exact W.widen hk hn' (kk H1 locs1 ls hP1 (hD1.weaken (fun k9 qz9 h9 _ => hF _ (hD1.2 k9 qz9 h9))) hS1 hl0)
theorem g_xSV_thr (X : gC ZZ p s m args meth c D tys A cc Ts own nL ret) (hzz : gZ ZZ) {γ : Type} {E0 : String} {r9 : String ⊕ γ} {σ9 : St} {mc9 ms9 : Nat} {Qc : Array Value → State → Outcome → State → Prop} (hx0 : ∀ x ∈ c.exceptionTable.toList, False) (hMm : xV ZZ D tys l y2 ws2 rm2 (wF AD E L X9) As σ (.inl E0) σ' mcq msq) (cw : CallB R s args own index y2 bytes maxL2 ret2 ws2 rm2 mcq msq nA ∧ (Cond.static y2).before args s = true) (hst : st0 = As.reverse ++ st) (hn : As.length = nA) (hcat : (st.map fun v => v.category).sum ≤ 8) (hkn : k + mcq ≤ R.cells ∧ n + msq ≤ R.slots) (hdg : decode cc pc = .ok (.invokestatic index, 3)) (hr9 : Sum.inl E0 = r9) (hσ9 : σ' = σ9) (hk : k + mcq ≤ mc9) (hn' : n + msq ≤ ms9) : gG p l e R s m args below meth c D tys A nL (vx_MQ below Qc (vx_X (fun u : St => u = σ9) (fun (E9 : String) (u : St) (t : State) => Sum.inl E9 = r9 ∧ gAt D tys (wF AD E L X9) A u t) A) args s mc9 ms9 A) (wF AD E L X9 σ) k n pc lv st0 := by
  subst hst
  subst hσ9
  intro H locs ls hP hD hSs hl0
  have hF := (gPre_of (av := []) hzz X.2.1 X.2.2.1 X.2.2.2.1 hP hD hSs).1
  refine vx_callv (vx_runS X.1 (hMm H.size) cw ⟨gPre_blind hzz, (gPre_of hzz X.2.1 X.2.2.1 X.2.2.2.1 hP hD hSs).2⟩ rfl hn hl0.1 rfl (lv_room hcat) hdg hkn) hSs (fun q _ h => hF q h) hF (fun q _ h => hF q h) (fun E9 ce qz9 u t H1 locs1 ht hvm hpx hBb hz hk1 hS1 hce hcv hcl => ?_) (fun u1 t H1 locs1 ht hvm hw hBb hz1 hk1 hS1 => ?_)
  · subst hpx
    obtain ⟨he9, hP1, -, hD1⟩ := hBb
    rw [ht] at hP1
    have he8 : E9 = E0 := Sum.inl.inj he9
    subst he8
    exact vx_out (fun x hx => absurd hx (fun hx => hx0 x hx)) X.2.2.2.2.2 hce hcv hcl (fun t2 ht2 hvm2 => ⟨u, rfl, ⟨hr9, by rw [ht2]; exact hP1, va_K.moved hvm2 X.2.1, hD1.weaken (fun k9 qz9 h9 _ => hF _ (hD1.2 k9 qz9 h9))⟩, hS1.F ht2⟩) hS1.2.2 hk hn'
  · exact nomatch hw.1
theorem g_xVI_ret (X : gC ZZ p s m args meth c D tys A cc Ts own nL ret) (hzz : gZ ZZ) {r : Int32} (hMm : xI ZZ D tys l y2 ws2 rm2 (wF AD E L X9) (.ref (AD j) :: As) σ (.inr r) σ' mcq msq) (cw : CallW R s args own C index y2 bytes maxL2 ret2 ws2 rm2 mcq msq nA) (hst : st0 = As.reverse ++ .ref (AD j) :: st) (hj : j ∈ L) (he : E σ j = .inr (ci, fs)) (hcq : vwCl[ci]? = some (C, T, N)) (hn : As.length = nA) (hcat : (st.map fun v => v.category).sum ≤ 8) (hkn : k + mcq ≤ R.cells ∧ n + msq ≤ R.slots) (hdg : decode cc pc = .ok (.invokevirtual index, 3)) (hk : k + mcq ≤ k') (hn' : n + msq ≤ n') (kk : gG p l e R s m args below meth c D tys A nL Q (wF AD E L X9 σ') k' n' (pc + 3) lv (.int r :: st)) : gG p l e R s m args below meth c D tys A nL Q (wF AD E L X9 σ) k n pc lv st0 := by
  subst hst
  intro H locs ls hP hD hSs hl0
  obtain ⟨q, hq⟩ := wF_get (A := AD) (E := E) (X := X9) (σ := σ) hj
  rw [he] at hq
  have hF := (gPre_of (av := []) hzz X.2.1 X.2.2.1 X.2.2.2.1 hP hD hSs).1
  refine vx_calli (vx_runV X.1 (hMm H.size) cw ⟨gPre_blind hzz, va_recv X.2.1 hP hcq hq, (gPre_of hzz X.2.1 X.2.2.1 X.2.2.2.1 hP hD hSs).2⟩ rfl hn hl0.1 rfl (lv_room hcat) hdg hkn) hSs (fun q _ h => hF q h) hF (fun q _ h => hF q h) (fun E9 ce qz9 u t H1 locs1 ht hvm hpx hBb hz hk1 hS1 hce hcv hcl => ?_) (fun r1 u1 t H1 locs1 ht hvm hw hBb hz1 hk1 hS1 => ?_)
  · exact nomatch hBb.1
  · obtain ⟨hr9, rfl⟩ := hw
    cases hr9
    obtain ⟨hP1, -, hD1⟩ := hBb
    rw [ht] at hP1
    exact W.widen hk hn' (kk H1 locs1 ls hP1 (hD1.weaken (fun k9 qz9 h9 _ => hF _ (hD1.2 k9 qz9 h9))) hS1 hl0)
theorem g_xVI_thr (X : gC ZZ p s m args meth c D tys A cc Ts own nL ret) (hzz : gZ ZZ) {γ : Type} {E0 : String} {r9 : String ⊕ γ} {σ9 : St} {mc9 ms9 : Nat} {Qc : Array Value → State → Outcome → State → Prop} (hx0 : ∀ x ∈ c.exceptionTable.toList, False) (hMm : xI ZZ D tys l y2 ws2 rm2 (wF AD E L X9) (.ref (AD j) :: As) σ (.inl E0) σ' mcq msq) (cw : CallW R s args own C index y2 bytes maxL2 ret2 ws2 rm2 mcq msq nA) (hst : st0 = As.reverse ++ .ref (AD j) :: st) (hj : j ∈ L) (he : E σ j = .inr (ci, fs)) (hcq : vwCl[ci]? = some (C, T, N)) (hn : As.length = nA) (hcat : (st.map fun v => v.category).sum ≤ 8) (hkn : k + mcq ≤ R.cells ∧ n + msq ≤ R.slots) (hdg : decode cc pc = .ok (.invokevirtual index, 3)) (hr9 : Sum.inl E0 = r9) (hσ9 : σ' = σ9) (hk : k + mcq ≤ mc9) (hn' : n + msq ≤ ms9) : gG p l e R s m args below meth c D tys A nL (vx_MQ below Qc (vx_X (fun u : St => u = σ9) (fun (E9 : String) (u : St) (t : State) => Sum.inl E9 = r9 ∧ gAt D tys (wF AD E L X9) A u t) A) args s mc9 ms9 A) (wF AD E L X9 σ) k n pc lv st0 := by
  subst hst
  subst hσ9
  intro H locs ls hP hD hSs hl0
  obtain ⟨q, hq⟩ := wF_get (A := AD) (E := E) (X := X9) (σ := σ) hj
  rw [he] at hq
  have hF := (gPre_of (av := []) hzz X.2.1 X.2.2.1 X.2.2.2.1 hP hD hSs).1
  refine vx_calli (vx_runV X.1 (hMm H.size) cw ⟨gPre_blind hzz, va_recv X.2.1 hP hcq hq, (gPre_of hzz X.2.1 X.2.2.1 X.2.2.2.1 hP hD hSs).2⟩ rfl hn hl0.1 rfl (lv_room hcat) hdg hkn) hSs (fun q _ h => hF q h) hF (fun q _ h => hF q h) (fun E9 ce qz9 u t H1 locs1 ht hvm hpx hBb hz hk1 hS1 hce hcv hcl => ?_) (fun r1 u1 t H1 locs1 ht hvm hw hBb hz1 hk1 hS1 => ?_)
  · subst hpx
    obtain ⟨he9, hP1, -, hD1⟩ := hBb
    rw [ht] at hP1
    have he8 : E9 = E0 := Sum.inl.inj he9
    subst he8
    exact vx_out (fun x hx => absurd hx (fun hx => hx0 x hx)) X.2.2.2.2.2 hce hcv hcl (fun t2 ht2 hvm2 => ⟨u, rfl, ⟨hr9, by rw [ht2]; exact hP1, va_K.moved hvm2 X.2.1, hD1.weaken (fun k9 qz9 h9 _ => hF _ (hD1.2 k9 qz9 h9))⟩, hS1.F ht2⟩) hS1.2.2 hk hn'
  · exact nomatch hw.1
theorem g_xVR_ret (X : gC ZZ p s m args meth c D tys A cc Ts own nL ret) (hzz : gZ ZZ) {r : Nat} (hMm : xR ZZ D tys l y2 ws2 rm2 AD (wF AD E L X9) (.ref (AD j) :: As) σ (.inr r) σ' mcq msq) (cw : CallW R s args own C index y2 bytes maxL2 ret2 ws2 rm2 mcq msq nA) (hst : st0 = As.reverse ++ .ref (AD j) :: st) (hj : j ∈ L) (he : E σ j = .inr (ci, fs)) (hcq : vwCl[ci]? = some (C, T, N)) (hn : As.length = nA) (hcat : (st.map fun v => v.category).sum ≤ 8) (hkn : k + mcq ≤ R.cells ∧ n + msq ≤ R.slots) (hdg : decode cc pc = .ok (.invokevirtual index, 3)) (hk : k + mcq ≤ k') (hn' : n + msq ≤ n') (kk : gG p l e R s m args below meth c D tys A nL Q (wF AD E L X9 σ') k' n' (pc + 3) lv (.ref (AD r) :: st)) : gG p l e R s m args below meth c D tys A nL Q (wF AD E L X9 σ) k n pc lv st0 := by
  subst hst
  intro H locs ls hP hD hSs hl0
  obtain ⟨q, hq⟩ := wF_get (A := AD) (E := E) (X := X9) (σ := σ) hj
  rw [he] at hq
  have hF := (gPre_of (av := []) hzz X.2.1 X.2.2.1 X.2.2.2.1 hP hD hSs).1
  refine vy_callq (vx_runV X.1 (hMm H.size) cw ⟨gPre_blind hzz, va_recv X.2.1 hP hcq hq, (gPre_of hzz X.2.1 X.2.2.1 X.2.2.2.1 hP hD hSs).2⟩ rfl hn hl0.1 rfl (lv_room hcat) hdg hkn) hSs (fun q _ h => hF q h) hF (fun q _ h => hF q h) (fun E9 ce qz9 u t H1 locs1 ht hvm hpx hBb hz hk1 hS1 hce hcv hcl => ?_) (fun r1 u1 t H1 locs1 ht hvm hw hBb hz1 hk1 hS1 => ?_)
  · exact nomatch hBb.1
  · obtain ⟨⟨jz9, rfl, hr9⟩, rfl⟩ := hw
    cases hr9
    obtain ⟨hP1, -, hD1⟩ := hBb
    rw [ht] at hP1
    exact W.widen hk hn' (kk H1 locs1 ls hP1 (hD1.weaken (fun k9 qz9 h9 _ => hF _ (hD1.2 k9 qz9 h9))) hS1 hl0)
theorem g_xVR_thr (X : gC ZZ p s m args meth c D tys A cc Ts own nL ret) (hzz : gZ ZZ) {γ : Type} {E0 : String} {r9 : String ⊕ γ} {σ9 : St} {mc9 ms9 : Nat} {Qc : Array Value → State → Outcome → State → Prop} (hx0 : ∀ x ∈ c.exceptionTable.toList, False) (hMm : xR ZZ D tys l y2 ws2 rm2 AD (wF AD E L X9) (.ref (AD j) :: As) σ (.inl E0) σ' mcq msq) (cw : CallW R s args own C index y2 bytes maxL2 ret2 ws2 rm2 mcq msq nA) (hst : st0 = As.reverse ++ .ref (AD j) :: st) (hj : j ∈ L) (he : E σ j = .inr (ci, fs)) (hcq : vwCl[ci]? = some (C, T, N)) (hn : As.length = nA) (hcat : (st.map fun v => v.category).sum ≤ 8) (hkn : k + mcq ≤ R.cells ∧ n + msq ≤ R.slots) (hdg : decode cc pc = .ok (.invokevirtual index, 3)) (hr9 : Sum.inl E0 = r9) (hσ9 : σ' = σ9) (hk : k + mcq ≤ mc9) (hn' : n + msq ≤ ms9) : gG p l e R s m args below meth c D tys A nL (vx_MQ below Qc (vx_X (fun u : St => u = σ9) (fun (E9 : String) (u : St) (t : State) => Sum.inl E9 = r9 ∧ gAt D tys (wF AD E L X9) A u t) A) args s mc9 ms9 A) (wF AD E L X9 σ) k n pc lv st0 := by
  subst hst
  subst hσ9
  intro H locs ls hP hD hSs hl0
  obtain ⟨q, hq⟩ := wF_get (A := AD) (E := E) (X := X9) (σ := σ) hj
  rw [he] at hq
  have hF := (gPre_of (av := []) hzz X.2.1 X.2.2.1 X.2.2.2.1 hP hD hSs).1
  refine vy_callq (vx_runV X.1 (hMm H.size) cw ⟨gPre_blind hzz, va_recv X.2.1 hP hcq hq, (gPre_of hzz X.2.1 X.2.2.1 X.2.2.2.1 hP hD hSs).2⟩ rfl hn hl0.1 rfl (lv_room hcat) hdg hkn) hSs (fun q _ h => hF q h) hF (fun q _ h => hF q h) (fun E9 ce qz9 u t H1 locs1 ht hvm hpx hBb hz hk1 hS1 hce hcv hcl => ?_) (fun r1 u1 t H1 locs1 ht hvm hw hBb hz1 hk1 hS1 => ?_)
  · subst hpx
    obtain ⟨he9, hP1, -, hD1⟩ := hBb
    rw [ht] at hP1
    have he8 : E9 = E0 := Sum.inl.inj he9
    subst he8
    exact vx_out (fun x hx => absurd hx (fun hx => hx0 x hx)) X.2.2.2.2.2 hce hcv hcl (fun t2 ht2 hvm2 => ⟨u, rfl, ⟨hr9, by rw [ht2]; exact hP1, va_K.moved hvm2 X.2.1, hD1.weaken (fun k9 qz9 h9 _ => hF _ (hD1.2 k9 qz9 h9))⟩, hS1.F ht2⟩) hS1.2.2 hk hn'
  · obtain ⟨⟨jz9, -, hr8⟩, -⟩ := hw
    exact nomatch hr8
theorem g_min (X : gC ZZ p s m args meth c D tys A cc Ts own nL ret) {ws9 : va_W} (hlink : Cond.methodLink own index Lib.Math.min.name ∈ Ts) (hstat : Cond.static Lib.Math.min.name ∈ Ts) (hini : Cond.initialized "java/lang/Math" ∈ Ts) (hcode : Cond.code Lib.Math.min.name Lib.Math.min.code 2 (some .int) ∈ Ts) (hframes : 1 ≤ R.frames) (hlocals : (st.map fun v => v.category).sum + 13 ≤ R.locals) (hkn : k ≤ R.cells ∧ n ≤ R.slots) {x y : Int32} (hdg : decode cc pc = .ok (.invokestatic index, 3)) (kk : gG p l e R s m args below meth c D tys A nL Q ws9 k n (pc + 3) lv (.int (if y < x then y else x) :: st)) : gG p l e R s m args below meth c D tys A nL Q ws9 k n pc lv (.int y :: .int x :: st) :=
  fun H locs ls hP hD hSs hl0 => va_mmin X.1.1 X.1.2.1 (X.1.2.2.1.trans hl0.1.symm) X.1.2.2.2.1 (X.1.2.2.2.2 _ hlink) (X.1.2.2.2.2 _ hstat) (X.1.2.2.2.2 _ hini) (X.1.2.2.2.2 _ hcode) hframes hlocals hkn.1 hkn.2 hdg (kk H locs ls hP hD hSs hl0)
theorem g_max (X : gC ZZ p s m args meth c D tys A cc Ts own nL ret) {ws9 : va_W} (hlink : Cond.methodLink own index Lib.Math.max.name ∈ Ts) (hstat : Cond.static Lib.Math.max.name ∈ Ts) (hini : Cond.initialized "java/lang/Math" ∈ Ts) (hcode : Cond.code Lib.Math.max.name Lib.Math.max.code 2 (some .int) ∈ Ts) (hframes : 1 ≤ R.frames) (hlocals : (st.map fun v => v.category).sum + 13 ≤ R.locals) (hkn : k ≤ R.cells ∧ n ≤ R.slots) {x y : Int32} (hdg : decode cc pc = .ok (.invokestatic index, 3)) (kk : gG p l e R s m args below meth c D tys A nL Q ws9 k n (pc + 3) lv (.int (if x < y then y else x) :: st)) : gG p l e R s m args below meth c D tys A nL Q ws9 k n pc lv (.int y :: .int x :: st) :=
  fun H locs ls hP hD hSs hl0 => va_mmax X.1.1 X.1.2.1 (X.1.2.2.1.trans hl0.1.symm) X.1.2.2.2.1 (X.1.2.2.2.2 _ hlink) (X.1.2.2.2.2 _ hstat) (X.1.2.2.2.2 _ hini) (X.1.2.2.2.2 _ hcode) hframes hlocals hkn.1 hkn.2 hdg (kk H locs ls hP hD hSs hl0)
end CCq
