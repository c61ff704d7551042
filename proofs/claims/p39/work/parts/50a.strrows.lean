/-! rows over plain worlds; calls that cut their cells out of a tail -/
def ZI (aK aO aS aV aT bS bV dA : Nat → Nat) (A : Nat → Prop) (U : State) (H : Heap) : Prop := ZL aK aO aS aV aT bS bV dA A U H ∧ va_AO "Cardcabinet$Row" U ∧ va_AO "Cardcabinet$Run" U ∧ va_Nw (.castable "[B" "java/lang/Cloneable") U
theorem ZI_ok (aK aO aS aV aT bS bV dA : Nat → Nat) : gZ (ZI aK aO aS aV aT bS bV dA) := by
  obtain ⟨z1, z2, z3, z4⟩ := ZL_ok aK aO aS aV aT bS bV dA
  exact ⟨fun A U H H1 h hq => ⟨z1 A U H H1 h.1 hq, h.2⟩, fun A B U H h hAB => ⟨z2 A B U H h.1 hAB, h.2⟩, fun A s U H hW h => ⟨z3 A s U H hW h.1, h.2.1.moved hW.alike, h.2.2.1.moved hW.alike, va_Nw.warmC hW h.2.2.2⟩, fun A u U H hv h => ⟨z4 A u U H hv h.1, h.2.1.moved (by rw [hv]; exact Vm.Alike.refl _), h.2.2.1.moved (by rw [hv]; exact Vm.Alike.refl _), va_Nw.same rfl hv.symm h.2.2.2⟩⟩
def cV (ZZ : (Nat → Prop) → State → Heap → Prop) (D : va_G) (tys : List (ClassId × FieldType)) (l : Launch) (y : MethodName) (ws : List Cond) (rm : Room) (W0 : va_W) (av : List Value) {S : Type} (post : S → Prop) (Wf : S → va_W) (mcq msq : Nat) : Prop := ∀ sz : Nat, Met l y ws rm (va_Pc av (gPre ZZ D tys W0 sz)) (va_Qv post (gAt D tys Wf (va_A W0 sz)) (va_A W0 sz)) mcq msq (va_A W0 sz)
theorem cV_of {ZZ : (Nat → Prop) → State → Heap → Prop} {D : va_G} {tys : List (ClassId × FieldType)} {l : Launch} {y : MethodName} {ws ws' : List Cond} {rm : Room} {W0 : va_W} {S : Type} {post : S → Prop} {Wf : S → va_W} {av : List Value} {cc : ByteArray} {maxL : Nat} {mcq msq : Nat} (hy : plainName y.cls = true) (hw : ws = Cond.code y cc maxL none :: ws') (hlen : (lg_sl av).length ≤ maxL)
    (body : ∀ (p : Program) (e : Env) (s : State) (m : MethodId) (args : Array Value) (below : List Frame) (meth : Method) (c : Code) (A : Nat → Prop), gC ZZ p s m args meth c D tys A cc ws y.cls maxL none → meth.name = y.name → gG p l e rm s m args below meth c D tys A maxL (MQ below (va_Qv post (gAt D tys Wf A) A) args s mcq msq A) W0 0 0 0 (lv_args 0 av) []) : cV ZZ D tys l y ws rm W0 av post Wf mcq msq := by
  intro sz
  refine Met.ofW (cc := cc) (maxL := maxL) (ret := none) hy hw ?_
  intro p e s m args below meth c s₁ B hml hv
  have hsz : s.heap.size = sz := hv.2.1
  subst hsz
  exact gBody (Wf := fun _ : Unit => W0) (σ := ()) hw hlen B hml hv rfl (fun X => body p e s m args below meth c _ X (name_of_methodNamed B.named B.method).1)
theorem vaRA_uniq {U : State} {c1 c2 : ClassId} {ty : FieldType} (h1 : va_RA U c1 ty) (h2 : va_RA U c2 ty) : c1 = c2 := by
  cases ty with
  | object C =>
    obtain ⟨_, _, _, _, _, a⟩ := h1
    obtain ⟨_, _, _, _, _, b⟩ := h2
    exact Option.some.inj (a.symm.trans b)
  | _ => exact Option.some.inj (Eq.trans (Eq.symm h1) h2)
theorem vaK_uniq {D : va_G} {cl : List vw_C} {tys : List (ClassId × FieldType)} {s : State} {cA c0 : ClassId} {ty : FieldType} (hK : va_K D cl (tys ++ [(cA, ty)]) s) {t0 : Nat} (ht : tys[t0]? = some (c0, ty)) : cA = c0 := by
  have hl := (List.getElem?_eq_some_iff.mp ht).1
  exact vaRA_uniq (hK.2 tys.length (cA, ty) (by rw [List.getElem?_append_right (Nat.le_refl _), Nat.sub_self]; rfl)).2 (hK.2 t0 (c0, ty) (by rw [List.getElem?_append_left hl]; exact ht)).2
theorem vaNd_of : ∀ {l : List Nat}, l.Nodup → va_nd l = true
  | [], _ => rfl
  | a :: l, h => by
    obtain ⟨h1, h2⟩ := List.nodup_cons.mp h
    unfold va_nd
    rw [vaNd_of h2, decide_eq_true h1]; rfl
theorem join_last {A0 : Nat → Prop} {D : va_G} {cl : List vw_C} {ws0 w1 : va_W} {x : Nat × va_E} {H H1 : Heap} (hP : va_P D cl (ws0 ++ [x]) H) (hD : va_D A0 (ws0 ++ [x])) (hk : ∀ q : Nat, q < H.size → ¬ va_A [x] H.size q → H1[q]? = H[q]?) (hF : ∀ q, va_A [x] H.size q → A0 q) (hP1 : va_P D cl w1 H1) (hD1 : va_D (va_A [x] H.size) w1) : va_P D cl (ws0 ++ w1) H1 ∧ va_D A0 (ws0 ++ w1) := by
  refine va_join hP hD [ws0.length] (List.range ws0.length) ?_ ?_ (vaNd_of List.nodup_range) ?_ hk hF hP1 hD1
  · show [(ws0 ++ [x])[ws0.length]?] = [some x]
    rw [List.getElem?_append_right (Nat.le_refl _), Nat.sub_self]; rfl
  · apply List.ext_getElem?
    intro i
    rw [List.getElem?_map, List.getElem?_map]
    by_cases hi : i < ws0.length
    · rw [List.getElem?_range hi, Option.map_some, List.getElem?_append_left hi, List.getElem?_eq_getElem hi]; rfl
    · rw [List.getElem?_eq_none (by rw [List.length_range]; omega), List.getElem?_eq_none (by omega)]; rfl
  · intro i hi hc
    have h1 := List.mem_range.mp hi
    have h2 := List.mem_singleton.mp hc
    omega
theorem arrV_ext {cA : ClassId} {N : Nat} {f g : Nat → Value} (h : ∀ i, i < N → f i = g i) : arrV cA N f = arrV cA N g := by
  unfold arrV
  congr 1
  exact congrArg Array.ofFn (funext fun i => h i.val i.isLt)
def cI (ZZ : (Nat → Prop) → State → Heap → Prop) (D : va_G) (tys : List (ClassId × FieldType)) (l : Launch) (y : MethodName) (ws : List Cond) (rm : Room) (W0 : va_W) (av : List Value) (post : Int32 → va_W → Prop) (mcq msq : Nat) : Prop := ∀ sz : Nat, Met l y ws rm (va_Pc av (gPre ZZ D tys W0 sz)) (va_Qi post (gAt D tys (fun w : va_W => w) (va_A W0 sz)) (va_A W0 sz)) mcq msq (va_A W0 sz)
theorem cI_of {ZZ : (Nat → Prop) → State → Heap → Prop} {D : va_G} {tys : List (ClassId × FieldType)} {l : Launch} {y : MethodName} {ws ws' : List Cond} {rm : Room} {W0 : va_W} {post : Int32 → va_W → Prop} {av : List Value} {cc : ByteArray} {maxL : Nat} {ret : Option FieldType} {mcq msq : Nat} (hy : plainName y.cls = true) (hw : ws = Cond.code y cc maxL ret :: ws') (hlen : (lg_sl av).length ≤ maxL)
    (body : ∀ (p : Program) (e : Env) (s : State) (m : MethodId) (args : Array Value) (below : List Frame) (meth : Method) (c : Code) (A : Nat → Prop), gC ZZ p s m args meth c D tys A cc ws y.cls maxL ret → meth.name = y.name → gG p l e rm s m args below meth c D tys A maxL (MQ below (va_Qi post (gAt D tys (fun w : va_W => w) A) A) args s mcq msq A) W0 0 0 0 (lv_args 0 av) []) : cI ZZ D tys l y ws rm W0 av post mcq msq := by
  intro sz
  refine Met.ofW (cc := cc) (maxL := maxL) (ret := ret) hy hw ?_
  intro p e s m args below meth c s₁ B hml hv
  have hsz : s.heap.size = sz := hv.2.1
  subst hsz
  exact gBody (Wf := fun _ : Unit => W0) (σ := ()) hw hlen B hml hv rfl (fun X => body p e s m args below meth c _ X (name_of_methodNamed B.named B.method).1)
def cW0 (ZZ : (Nat → Prop) → State → Heap → Prop) (D : va_G) (tys : List (ClassId × FieldType)) (l : Launch) (y : MethodName) (ws : List Cond) (rm : Room) (W0 : va_W) (av : List Value) (post : va_W → Prop) (mcq msq : Nat) : Prop := ∀ sz : Nat, Met l y ws rm (va_Pc av (gPre ZZ D tys W0 sz)) (va_Qv post (gAt D tys (fun w : va_W => w) (va_A W0 sz)) (va_A W0 sz)) mcq msq (va_A W0 sz)
theorem cW0_of {ZZ : (Nat → Prop) → State → Heap → Prop} {D : va_G} {tys : List (ClassId × FieldType)} {l : Launch} {y : MethodName} {ws ws' : List Cond} {rm : Room} {W0 : va_W} {post : va_W → Prop} {av : List Value} {cc : ByteArray} {maxL : Nat} {ret : Option FieldType} {mcq msq : Nat} (hy : plainName y.cls = true) (hw : ws = Cond.code y cc maxL ret :: ws') (hlen : (lg_sl av).length ≤ maxL)
    (body : ∀ (p : Program) (e : Env) (s : State) (m : MethodId) (args : Array Value) (below : List Frame) (meth : Method) (c : Code) (A : Nat → Prop), gC ZZ p s m args meth c D tys A cc ws y.cls maxL ret → meth.name = y.name → gG p l e rm s m args below meth c D tys A maxL (MQ below (va_Qv post (gAt D tys (fun w : va_W => w) A) A) args s mcq msq A) W0 0 0 0 (lv_args 0 av) []) : cW0 ZZ D tys l y ws rm W0 av post mcq msq := by
  intro sz
  refine Met.ofW (cc := cc) (maxL := maxL) (ret := ret) hy hw ?_
  intro p e s m args below meth c s₁ B hml hv
  have hsz : s.heap.size = sz := hv.2.1
  subst hsz
  exact gBody (Wf := fun _ : Unit => W0) (σ := ()) hw hlen B hml hv rfl (fun X => body p e s m args below meth c _ X (name_of_methodNamed B.named B.method).1)
def cQ (ZZ : (Nat → Prop) → State → Heap → Prop) (D : va_G) (tys : List (ClassId × FieldType)) (l : Launch) (y : MethodName) (ws : List Cond) (rm : Room) (W0 : va_W) (av : List Value) (post : Option Nat → va_W → Prop) (mcq msq : Nat) : Prop := ∀ sz : Nat, Met l y ws rm (va_Pc av (gPre ZZ D tys W0 sz)) (va_Qq post (gAt D tys (fun w : va_W => w) (va_A W0 sz)) (va_A W0 sz)) mcq msq (va_A W0 sz)
theorem cQ_of {ZZ : (Nat → Prop) → State → Heap → Prop} {D : va_G} {tys : List (ClassId × FieldType)} {l : Launch} {y : MethodName} {ws ws' : List Cond} {rm : Room} {W0 : va_W} {post : Option Nat → va_W → Prop} {av : List Value} {cc : ByteArray} {maxL : Nat} {ret : Option FieldType} {mcq msq : Nat} (hy : plainName y.cls = true) (hw : ws = Cond.code y cc maxL ret :: ws') (hlen : (lg_sl av).length ≤ maxL)
    (body : ∀ (p : Program) (e : Env) (s : State) (m : MethodId) (args : Array Value) (below : List Frame) (meth : Method) (c : Code) (A : Nat → Prop), gC ZZ p s m args meth c D tys A cc ws y.cls maxL ret → meth.name = y.name → gG p l e rm s m args below meth c D tys A maxL (MQ below (va_Qq post (gAt D tys (fun w : va_W => w) A) A) args s mcq msq A) W0 0 0 0 (lv_args 0 av) []) : cQ ZZ D tys l y ws rm W0 av post mcq msq := by
  intro sz
  refine Met.ofW (cc := cc) (maxL := maxL) (ret := ret) hy hw ?_
  intro p e s m args below meth c s₁ B hml hv
  have hsz : s.heap.size = sz := hv.2.1
  subst hsz
  exact gBody (Wf := fun _ : Unit => W0) (σ := ()) hw hlen B hml hv rfl (fun X => body p e s m args below meth c _ X (name_of_methodNamed B.named B.method).1)
/-- cells cut out of a tail, and what comes back behind the others -/
theorem tl_map {W1 w wc : va_W} {is : List Nat} (h : is.map (fun i => w[i]?) = wc.map some) : (is.map (W1.length + ·)).map (fun i => (W1 ++ w)[i]?) = wc.map some := by
  rw [List.map_map, ← h]
  refine List.map_congr_left fun i _ => ?_
  show (W1 ++ w)[W1.length + i]? = w[i]?
  rw [List.getElem?_append_right (Nat.le_add_right _ _), Nat.add_sub_cancel_left]
theorem va_nd_nodup : ∀ {l : List Nat}, va_nd l = true → l.Nodup
  | [], _ => List.nodup_nil
  | a :: l, h => by
    unfold va_nd at h
    obtain ⟨h1, h2⟩ := Bool.and_eq_true_iff.mp h
    exact List.nodup_cons.mpr ⟨of_decide_eq_true h1, va_nd_nodup h2⟩
theorem join_W {A0 : Nat → Prop} {D : va_G} {cl : List vw_C} {W1 w wc wr w1 : va_W} {H H1 : Heap} (hP : va_P D cl (W1 ++ w) H) (hD : va_D A0 (W1 ++ w)) (isC isR : List Nat) (hC : isC.map (fun i => w[i]?) = wc.map some) (hR : isR.map (fun i => w[i]?) = wr.map some) (hn : va_nd isR = true) (hdis : ∀ i ∈ isR, i ∉ isC)
    (hk : ∀ q : Nat, q < H.size → ¬ va_A wc H.size q → H1[q]? = H[q]?) (hF : ∀ q, va_A wc H.size q → A0 q) (hP1 : va_P D cl w1 H1) (hD1 : va_D (va_A wc H.size) w1) : va_P D cl (W1 ++ (wr ++ w1)) H1 ∧ va_D A0 (W1 ++ (wr ++ w1)) := by
  rw [← List.append_assoc]
  refine va_join hP hD (isC.map (W1.length + ·)) (List.range W1.length ++ isR.map (W1.length + ·)) (tl_map hC) ?_ (vaNd_of ?_) ?_ hk hF hP1 hD1
  · rw [List.map_append, List.map_append, tl_map hR]
    congr 1
    apply List.ext_getElem?
    intro i
    rw [List.getElem?_map, List.getElem?_map]
    by_cases hi : i < W1.length
    · rw [List.getElem?_range hi, Option.map_some, List.getElem?_append_left hi, List.getElem?_eq_getElem hi]; rfl
    · rw [List.getElem?_eq_none (by rw [List.length_range]; omega), List.getElem?_eq_none (by omega)]; rfl
  · refine List.nodup_append.mpr ⟨List.nodup_range, ?_, fun a ha b hb => ?_⟩
    · refine List.pairwise_map.mpr (List.Pairwise.imp (fun {x y} hxy => ?_) (va_nd_nodup hn))
      intro e
      exact hxy (Nat.add_left_cancel e)
    · have h1 := List.mem_range.mp ha
      obtain ⟨i, -, rfl⟩ := List.mem_map.mp hb
      omega
  · intro i hi hc
    obtain ⟨j, hj, rfl⟩ := List.mem_map.mp hc
    rcases List.mem_append.mp hi with h1 | h1
    · have := List.mem_range.mp h1
      omega
    · obtain ⟨i2, h2, e⟩ := List.mem_map.mp h1
      have : i2 = j := Nat.add_left_cancel e
      subst this
      exact hdis i2 h2 hj
theorem cut_P {D : va_G} {cl : List vw_C} {W1 w wc : va_W} {H : Heap} {isC : List Nat} (hC : isC.map (fun i => w[i]?) = wc.map some) (hP : va_P D cl (W1 ++ w) H) : va_P D cl wc H := vaP_mem hP fun q hq => by
  obtain ⟨j, hj⟩ := List.getElem?_of_mem hq
  have h1 : (isC.map (fun i => w[i]?))[j]? = some (some q) := by rw [hC, List.getElem?_map, hj]; rfl
  rw [List.getElem?_map] at h1
  cases hi : isC[j]? with
  | none => rw [hi] at h1; cases h1
  | some i =>
    rw [hi] at h1
    exact List.mem_append_right _ (List.mem_of_getElem? (Option.some.inj h1))
theorem cut_D {A : Nat → Prop} {W1 w wc : va_W} {isC : List Nat} (hC : isC.map (fun i => w[i]?) = wc.map some) (hn : va_nd isC = true) (hD : va_D A (W1 ++ w)) : va_D A wc := by
  have key : ∀ (j : Nat) (q : Nat × va_E), wc[j]? = some q → ∃ i, isC[j]? = some i ∧ (W1 ++ w)[W1.length + i]? = some q := fun j q hj => by
    have h1 : (isC.map (fun i => w[i]?))[j]? = some (some q) := by rw [hC, List.getElem?_map, hj]; rfl
    rw [List.getElem?_map] at h1
    cases hi : isC[j]? with
    | none => rw [hi] at h1; cases h1
    | some i =>
      rw [hi] at h1
      exact ⟨i, rfl, by rw [List.getElem?_append_right (Nat.le_add_right _ _), Nat.add_sub_cancel_left]; exact Option.some.inj h1⟩
  refine ⟨fun i j a b hi hj hab => ?_, fun i q hq => ?_⟩
  · obtain ⟨i1, e1, f1⟩ := key i a hi
    obtain ⟨j1, e2, f2⟩ := key j b hj
    have := hD.1 _ _ a b f1 f2 hab
    have e3 : i1 = j1 := Nat.add_left_cancel this
    subst e3
    exact va_nd_inj isC hn i j i1 e1 e2
  · obtain ⟨i1, e1, f1⟩ := key i q hq
    exact hD.2 _ q f1
section IR
variable {p : Program} {l : Launch} {e : Env} {R : Room} {s : State} {m : MethodId} {args : Array Value} {below : List Frame} {meth : Method} {c : Code} {D : va_G} {tys : List (ClassId × FieldType)} {A : Nat → Prop} {nL : Nat} {Q : State → Prop} {cc : ByteArray} {Ts : List Cond} {own : String} {ret : Option FieldType} {ZZ : (Nat → Prop) → State → Heap → Prop}
variable {k n pc : Nat} {lv : List (Nat × Value)} {st st0 : List Value} {ws ws0 ws9 : va_W} {aK aO aS aV aT bS bV dA : Nat → Nat}
variable {y2 : MethodName} {ws2 : List Cond} {rm2 : Room} {bytes : ByteArray} {maxL2 index nA : Nat} {As : List Value} {mcq msq : Nat}
theorem gC_ZL (X : gC (ZI aK aO aS aV aT bS bV dA) p s m args meth c D tys A cc Ts own nL ret) : gC (ZL aK aO aS aV aT bS bV dA) p s m args meth c D tys A cc Ts own nL ret := ⟨X.1, X.2.1, X.2.2.1, X.2.2.2.1.1, X.2.2.2.2⟩
theorem gC_ZC (X : gC (ZI aK aO aS aV aT bS bV dA) p s m args meth c D tys A cc Ts own nL ret) : gC (ZC aK aO aS aV aT) p s m args meth c D tys A cc Ts own nL ret := ⟨X.1, X.2.1, X.2.2.1, X.2.2.2.1.1.1, X.2.2.2.2⟩
theorem gC_LC (X : gC (ZL aK aO aS aV aT bS bV dA) p s m args meth c D tys A cc Ts own nL ret) : gC (ZC aK aO aS aV aT) p s m args meth c D tys A cc Ts own nL ret := ⟨X.1, X.2.1, X.2.2.1, X.2.2.2.1.1, X.2.2.2.2⟩
theorem g_weq (hw : ws = ws9) (kk : gG p l e R s m args below meth c D tys A nL Q ws9 k n pc lv st) : gG p l e R s m args below meth c D tys A nL Q ws k n pc lv st := by
  subst hw; exact kk
theorem g_ceq (q0 : Nat) {q : Nat} {e1 e2 : va_E} (ha : ws[q0]? = some (q, e1)) (he : ∀ H : Heap, va_at D vwCl (q, e1) H → va_at D vwCl (q, e2) H) (hw : ws.set q0 (q, e2) = ws9) (kk : gG p l e R s m args below meth c D tys A nL Q ws9 k n pc lv st) : gG p l e R s m args below meth c D tys A nL Q ws k n pc lv st := by
  subst hw
  intro H locs ls hP hD hSs hl0
  have hq0 := (List.getElem?_eq_some_iff.mp ha).1
  refine kk H locs ls (fun i x hx => ?_) ⟨fun i j a b hi hj hab => ?_, fun i x hx => ?_⟩ hSs hl0
  · by_cases h : i = q0
    · subst h
      rw [List.getElem?_set_self hq0] at hx
      cases hx
      exact he H (hP _ _ ha)
    · rw [List.getElem?_set_ne (fun z => h z.symm)] at hx
      exact hP i x hx
  · have key : ∀ (i : Nat) (x : Nat × va_E), (ws.set q0 (q, e2))[i]? = some x → ∃ y, ws[i]? = some y ∧ y.1 = x.1 := fun i x hx => by
      by_cases h : i = q0
      · subst h
        rw [List.getElem?_set_self hq0] at hx
        cases hx
        exact ⟨_, ha, rfl⟩
      · rw [List.getElem?_set_ne (fun z => h z.symm)] at hx
        exact ⟨x, hx, rfl⟩
    obtain ⟨a', ha', ea⟩ := key i a hi
    obtain ⟨b', hb', eb⟩ := key j b hj
    exact hD.1 i j a' b' ha' hb' (by rw [ea, eb, hab])
  · by_cases h : i = q0
    · subst h
      rw [List.getElem?_set_self hq0] at hx
      cases hx
      exact hD.2 i (q, e1) ha
    · rw [List.getElem?_set_ne (fun z => h z.symm)] at hx
      exact hD.2 i x hx
theorem g_refsq (q0 : Nat) {q N : Nat} {cA : ClassId} {f g : Nat → Option Nat} (hfg : ∀ i, i < N → f i = g i) (ha : ws[q0]? = some (q, .inl (cA, N, .inr (.inr (.inr (.inr f)))))) (hw : ws.set q0 (q, .inl (cA, N, .inr (.inr (.inr (.inr g))))) = ws9) (kk : gG p l e R s m args below meth c D tys A nL Q ws9 k n pc lv st) : gG p l e R s m args below meth c D tys A nL Q ws k n pc lv st :=
  g_ceq q0 ha (fun H h => by
    have h1 : H[q]? = some (vp_cell cA (N, .inr (.inr (.inr (.inr f))))) := h
    show H[q]? = some (vp_cell cA (N, .inr (.inr (.inr (.inr g)))))
    rw [h1, vp_cell_q, vp_cell_q, arrV_ext (fun i hi => by rw [hfg i hi])]) hw kk
theorem g_objI (X : gC ZZ p s m args meth c D tys A cc Ts own nL ret) {q : Nat} (hlink : Cond.methodLink own index objectInit ∈ Ts) (hinst : Cond.instanceMethod objectInit ∈ Ts) (hcode : Cond.code objectInit ⟨#[0xb1]⟩ 1 none ∈ Ts) (hdg : decode cc pc = .ok (.invokespecial index, 3)) (hR : 1 ≤ R.frames) (hRl : (st.map fun v => v.category).sum + 12 ≤ R.locals) (kk : gG p l e R s m args below meth c D tys A nL Q ws k n (pc + 3) lv st) : gG p l e R s m args below meth c D tys A nL Q ws k n pc lv (.ref q :: st) := by
  intro H locs ls hP hD hSs hl0
  refine W.objInit X.1.1 X.1.2.1 X.1.2.2.2.1 (X.1.2.2.2.2 _ hlink) (X.1.2.2.2.2 _ hinst) (X.1.2.2.2.2 _ hcode) rfl (by rw [X.1.2.2.1]; exact hl0.1) rfl hdg hR ?_ ?_
  · have : (F0 m pc ls (.ref q :: st)).monitorRoom = 0 := rfl
    omega
  · exact kk H locs ls hP hD hSs hl0
theorem g_newa (X : gC ZZ p s m args meth c D tys A cc Ts own nL ret) {atype : ArrayType} {ty : FieldType} {nn : Int32} {N : Nat} {a0 : vp_A} {cA : ClassId} (harr : Cond.arrayClass (newarray.typeOf atype) ∈ Ts) (hty : newarray.typeOf atype = ty) (t0 : Nat) (ht : tys[t0]? = some (cA, ty)) (ha : ∀ cA : ClassId, vp_cell cA a0 = arrV cA N (fun _ => defaultValue ty)) (hn : ¬ nn < 0) (hN : nn.toNatClampNeg = N) (hbytes : N * componentBytes ty ≤ 536870912) (hcells : k + 1 ≤ R.cells) (hslots : n + N ≤ R.slots) (hdg : decode cc pc = .ok (.newarray atype, 2))
    (kk : ∀ q : Nat, gG p l e R s m args below meth c D tys A nL Q (ws ++ [(q, .inl (cA, a0))]) (k + 1) (n + N) (pc + 2) lv (.ref q :: st)) : gG p l e R s m args below meth c D tys A nL Q ws k n pc lv (.int nn :: st) := by
  intro H locs ls hP hD hSs hl0
  refine va_newa X.1.1 X.1.2.1 (X.1.2.2.2.2 _ harr) hty X.2.1 hP hD hSs X.2.2.1 ha hn hN hbytes hcells hslots hdg (fun q cB H1 hK1 hP1 hD1 hS1 => ?_)
  have e1 := vaK_uniq hK1 ht
  subst e1
  exact kk q H1 locs ls hP1 hD1 hS1 hl0
theorem g_newq (X : gC ZZ p s m args meth c D tys A cc Ts own nL ret) {C : String} {nn : Int32} {N : Nat} {cA : ClassId} (hlink : Cond.classLink own index C ∈ Ts) (hover : va_AO C s) (t0 : Nat) (ht : tys[t0]? = some (cA, .object C)) (hn : ¬ nn < 0) (hN : nn.toNatClampNeg = N) (hbytes : N * 4 ≤ 536870912) (hcells : k + 1 ≤ R.cells) (hslots : n + N ≤ R.slots) (hdg : decode cc pc = .ok (.anewarray index, 3))
    (kk : ∀ q : Nat, gG p l e R s m args below meth c D tys A nL Q (ws ++ [(q, .inl (cA, N, .inr (.inr (.inr (.inr (fun _ => none))))))]) (k + 1) (n + N) (pc + 3) lv (.ref q :: st)) : gG p l e R s m args below meth c D tys A nL Q ws k n pc lv (.int nn :: st) := by
  intro H locs ls hP hD hSs hl0
  refine va_newq X.1.1 X.1.2.1 X.1.2.2.2.1 (X.1.2.2.2.2 _ hlink) hover X.2.1 hP hD hSs X.2.2.1 hn hN hbytes hcells hslots hdg (fun q cB H1 hK1 hP1 hD1 hS1 => ?_)
  have e1 := vaK_uniq hK1 ht
  subst e1
  exact kk q H1 locs ls hP1 hD1 hS1 hl0
theorem g_new (X : gC ZZ p s m args meth c D tys A cc Ts own nL ret) {C : String} {T : u_T} {N ci : Nat} {fs : List Value} (hin : ∀ w ∈ u_ws C T N, w ∈ Ts) (ty : Nat → FieldType) (hty : ∀ k, k < N → parseFieldDescriptor (T k).2.2.1 = some (ty k)) (hcl : Cond.classLink own index C ∈ Ts) (hinst : Cond.instantiable C N ∈ Ts) (hini : Cond.initialized C ∈ Ts) (hc : vwCl[ci]? = some (C, T, N)) (hfs : ∀ j, j < N → defaultValue (ty j) = vp_V fs j) (hcells : k + 1 ≤ R.cells) (hslots : n + N ≤ R.slots) (hdg : decode cc pc = .ok (.new index, 3))
    (kk : ∀ q : Nat, gG p l e R s m args below meth c D tys A nL Q (ws ++ [(q, .inr (ci, fs))]) (k + 1) (n + N) (pc + 3) lv (.ref q :: st)) : gG p l e R s m args below meth c D tys A nL Q ws k n pc lv st := by
  intro H locs ls hP hD hSs hl0
  exact va_new X.1.1 X.1.2.1 X.1.2.2.2.2 hin ty hty X.1.2.2.2.1 (X.1.2.2.2.2 _ hcl) (X.1.2.2.2.2 _ hinst) (X.1.2.2.2.2 _ hini) X.2.1 hP hD hSs X.2.2.1 hc hfs hcells hslots hdg (fun q H1 hP1 hD1 hS1 => kk q H1 locs ls hP1 hD1 hS1 hl0)
theorem g_getK (X : gC ZZ p s m args meth c D tys A cc Ts own nL ret) (q0 : Nat) {q : Nat} {ref C : String} {T : u_T} {N ci : Nat} {fs : List Value} (ha : ws[q0]? = some (q, .inr (ci, fs))) (hin : ∀ w ∈ u_ws C T N, w ∈ Ts) (hcq : vwCl[ci]? = some (C, T, N)) (k9 : Nat) (hk : k9 < N) (hlink : Cond.fieldLink own index ref (T k9).2.1 (T k9).2.2.1 ∈ Ts) (hsame : ∀ x, s.fieldFound? (T k9).1 (T k9).2.1 (T k9).2.2.1 = some x → s.fieldFound? ref (T k9).2.1 (T k9).2.2.1 = some x) {v : Value} (hv : fs[k9]? = some v) (hdg : decode cc pc = .ok (.getfield index, 3)) (kk : gG p l e R s m args below meth c D tys A nL Q ws k n (pc + 3) lv (v :: st)) : gG p l e R s m args below meth c D tys A nL Q ws k n pc lv (.ref q :: st) := by
  intro H locs ls hP hD hSs hl0
  exact va_get X.1.1 X.1.2.1 X.1.2.2.2.2 hin X.1.2.2.2.1 X.2.1 hP q0 ha hcq k9 hk (X.1.2.2.2.2 _ hlink) hsame hv hdg (kk H locs ls hP hD hSs hl0)
theorem g_putK (X : gC ZZ p s m args meth c D tys A cc Ts own nL ret) (q0 : Nat) {q : Nat} {ref C : String} {T : u_T} {N ci : Nat} {fs : List Value} (ha : ws[q0]? = some (q, .inr (ci, fs))) (hin : ∀ w ∈ u_ws C T N, w ∈ Ts) (hcq : vwCl[ci]? = some (C, T, N)) (ty0 : Nat → FieldType) (hty : ∀ k, k < N → parseFieldDescriptor (T k).2.2.1 = some (ty0 k)) (hnm : ∀ a, a < N → ∀ b, b < N → a ≠ b → (T a).2.1 ≠ (T b).2.1) (k9 : Nat) (hk : k9 < N) (hlink : Cond.fieldLink own index ref (T k9).2.1 (T k9).2.2.1 ∈ Ts) (hsame : ∀ x, s.fieldFound? (T k9).1 (T k9).2.1 (T k9).2.2.1 = some x → s.fieldFound? ref (T k9).2.1 (T k9).2.2.1 = some x) (hfin : (T k9).2.2.2 = false) {ty : FieldType} {v : Value} (hd : parseFieldDescriptor (T k9).2.2.1 = some ty) (hn : narrow ty v = v) (hfit : fits ty v = true) (hlen : k9 < fs.length) (hdg : decode cc pc = .ok (.putfield index, 3)) (hw : ws.set q0 (q, .inr (ci, fs.set k9 v)) = ws9) (kk : gG p l e R s m args below meth c D tys A nL Q ws9 k n (pc + 3) lv st) : gG p l e R s m args below meth c D tys A nL Q ws k n pc lv (v :: .ref q :: st) := by
  subst hw
  intro H locs ls hP hD hSs hl0
  exact va_put X.1.1 X.1.2.1 X.1.2.2.2.2 hin ty0 hty hnm X.1.2.2.2.1 X.2.1 hP hD hSs q0 ha hcq k9 hk (X.1.2.2.2.2 _ hlink) hsame hfin hd hn hfit hlen hdg (fun H1 locs1 hP1 hD1 hS1 => kk H1 locs1 ls hP1 hD1 hS1 hl0)
theorem g_putFK (X : gC ZZ p s m args meth c D tys A cc Ts own nL ret) (q0 : Nat) {q : Nat} {ref C : String} {T : u_T} {N ci : Nat} {fs : List Value} (ha : ws[q0]? = some (q, .inr (ci, fs))) (hin : ∀ w ∈ u_ws C T N, w ∈ Ts) (hcq : vwCl[ci]? = some (C, T, N)) (ty0 : Nat → FieldType) (hty : ∀ k, k < N → parseFieldDescriptor (T k).2.2.1 = some (ty0 k)) (hnm : ∀ a, a < N → ∀ b, b < N → a ≠ b → (T a).2.1 ≠ (T b).2.1) (k9 : Nat) (hk : k9 < N) (hlink : Cond.fieldLink own index ref (T k9).2.1 (T k9).2.2.1 ∈ Ts) (hsame : ∀ x, s.fieldFound? (T k9).1 (T k9).2.1 (T k9).2.2.1 = some x → s.fieldFound? ref (T k9).2.1 (T k9).2.2.1 = some x) (hfin : (T k9).2.2.2 = true) (hin2 : meth.name = "<init>") (hdecl : (T k9).1 = own) {ty : FieldType} {v : Value} (hd : parseFieldDescriptor (T k9).2.2.1 = some ty) (hn : narrow ty v = v) (hfit : fits ty v = true) (hlen : k9 < fs.length) (hdg : decode cc pc = .ok (.putfield index, 3)) (hw : ws.set q0 (q, .inr (ci, fs.set k9 v)) = ws9) (kk : gG p l e R s m args below meth c D tys A nL Q ws9 k n (pc + 3) lv st) : gG p l e R s m args below meth c D tys A nL Q ws k n pc lv (v :: .ref q :: st) := by
  subst hw
  intro H locs ls hP hD hSs hl0
  exact va_putF X.1.1 X.1.2.1 X.1.2.2.2.2 hin ty0 hty hnm X.1.2.2.2.1 X.2.1 hP hD hSs q0 ha hcq k9 hk (X.1.2.2.2.2 _ hlink) hsame hfin hin2 hdecl hd hn hfit hlen hdg (fun H1 locs1 hP1 hD1 hS1 => kk H1 locs1 ls hP1 hD1 hS1 hl0)
theorem g_astqK (X : gC ZZ p s m args meth c D tys A cc Ts own nL ret) (q0 t0 qk ci : Nat) {q v N : Nat} {cA : ClassId} {r : vw_C} {vs : List Value} {f : Nat → Option Nat} (ha : ws[q0]? = some (q, .inl (cA, N, .inr (.inr (.inr (.inr f)))))) (ht : tys[t0]? = some (cA, .object r.1)) (hv : ws[qk]? = some (v, .inr (ci, vs))) (hc : vwCl[ci]? = some r) {i : Int32} (hin : vp_in i N) (hdg : decode cc pc = .ok (.aastore, 1)) (hw : ws.set q0 (q, .inl (cA, N, .inr (.inr (.inr (.inr (va_up f i.toNatClampNeg (some v))))))) = ws9) (kk : gG p l e R s m args below meth c D tys A nL Q ws9 k n (pc + 1) lv st) : gG p l e R s m args below meth c D tys A nL Q ws k n pc lv (.ref v :: .int i :: .ref q :: st) := by
  subst hw
  intro H locs ls hP hD hSs hl0
  exact va_astq X.1.1 X.1.2.1 X.2.1 hP hD hSs q0 t0 qk ci ha ht hv hc hin hdg (fun H1 locs1 hP1 hD1 hS1 => kk H1 locs1 ls hP1 hD1 hS1 hl0)
theorem g_iastK (X : gC ZZ p s m args meth c D tys A cc Ts own nL ret) (q0 t0 : Nat) {q N : Nat} {cA : ClassId} {f : Nat → Int32} (ha : ws[q0]? = some (q, .inl (cA, N, .inl f))) (ht : tys[t0]? = some (cA, .int)) {i x : Int32} (hin : vp_in i N) (hdg : decode cc pc = .ok (.iastore, 1)) (hw : ws.set q0 (q, .inl (cA, N, .inl (upd f i.toNatClampNeg x))) = ws9) (kk : gG p l e R s m args below meth c D tys A nL Q ws9 k n (pc + 1) lv st) : gG p l e R s m args below meth c D tys A nL Q ws k n pc lv (.int x :: .int i :: .ref q :: st) := by
  subst hw
  intro H locs ls hP hD hSs hl0
  exact va_iast X.1.1 X.1.2.1 X.2.1 hP hD hSs q0 t0 ha ht hin hdg (fun H1 locs1 hP1 hD1 hS1 => kk H1 locs1 ls hP1 hD1 hS1 hl0)
theorem g_callC (X : gC ZZ p s m args meth c D tys A cc Ts own nL ret) (hzz : gZ ZZ) {S : Type} {post : S → Prop} {Wf : S → va_W} {q : Nat} {e9 : va_E} (hM : cV ZZ D tys l y2 ws2 rm2 [(q, e9)] (.ref q :: As) post Wf mcq msq) (cw : CallB R s args own index y2 bytes maxL2 none ws2 rm2 mcq msq nA ∧ y2.name = "<init>" ∧ (Cond.instanceMethod y2).before args s = true) (hst : st0 = As.reverse ++ .ref q :: st) (hn : As.length = nA) (hcat : (st.map fun v => v.category).sum ≤ 8) (hkn : k + mcq ≤ R.cells ∧ n + msq ≤ R.slots) (hdg : decode cc pc = .ok (.invokespecial index, 3)) (kk : ∀ u : S, post u → gG p l e R s m args below meth c D tys A nL Q (ws0 ++ Wf u) (k + mcq) (n + msq) (pc + 3) lv st) : gG p l e R s m args below meth c D tys A nL Q (ws0 ++ [(q, e9)]) k n pc lv st0 := by
  subst hst
  intro H locs ls hP hD hSs hl0
  have hPx : va_P D vwCl [(q, e9)] H := vaP_mem hP (fun x hx => List.mem_append_right _ hx)
  have hDx : va_D A [(q, e9)] := vaD_iff.mpr ⟨List.pairwise_singleton _ _, fun x hx => (vaD_iff.mp hD).2 x (List.mem_append_right _ hx)⟩
  have hF := (gPre_of (av := []) hzz X.2.1 X.2.2.1 X.2.2.2.1 hPx hDx hSs).1
  refine va_callv (va_runI X.1 (hM H.size) cw ⟨gPre_blind hzz, (gPre_of hzz X.2.1 X.2.2.1 X.2.2.2.1 hPx hDx hSs).2⟩ rfl hn hl0.1 rfl (lv_room hcat) hdg hkn) hSs (fun q _ h => hF q h) hF (fun u t H1 locs1 ht hvm hw hBb hz1 hk1 hS1 => ?_)
  obtain ⟨hP1, -, hD1⟩ := hBb
  rw [ht] at hP1
  obtain ⟨hP2, hD2⟩ := join_last hP hD hk1 hF hP1 hD1
  exact kk u hw H1 locs1 ls hP2 hD2 hS1 hl0
theorem g_callCN (X : gC ZZ p s m args meth c D tys A cc Ts own nL ret) (hzz : gZ ZZ) {host : String} {S : Type} {post : S → Prop} {Wf : S → va_W} {q : Nat} {e9 : va_E} (hM : cV ZZ D tys l y2 ws2 rm2 [(q, e9)] (.ref q :: As) post Wf mcq msq) (cw : va_CN R s args own index y2 host bytes maxL2 none ws2 rm2 mcq msq nA ∧ y2.name = "<init>" ∧ (Cond.instanceMethod y2).before args s = true) (hst : st0 = As.reverse ++ .ref q :: st) (hn : As.length = nA) (hcat : (st.map fun v => v.category).sum ≤ 8) (hkn : k + mcq ≤ R.cells ∧ n + msq ≤ R.slots) (hdg : decode cc pc = .ok (.invokespecial index, 3)) (kk : ∀ u : S, post u → gG p l e R s m args below meth c D tys A nL Q (ws0 ++ Wf u) (k + mcq) (n + msq) (pc + 3) lv st) : gG p l e R s m args below meth c D tys A nL Q (ws0 ++ [(q, e9)]) k n pc lv st0 := by
  subst hst
  intro H locs ls hP hD hSs hl0
  have hPx : va_P D vwCl [(q, e9)] H := vaP_mem hP (fun x hx => List.mem_append_right _ hx)
  have hDx : va_D A [(q, e9)] := vaD_iff.mpr ⟨List.pairwise_singleton _ _, fun x hx => (vaD_iff.mp hD).2 x (List.mem_append_right _ hx)⟩
  have hF := (gPre_of (av := []) hzz X.2.1 X.2.2.1 X.2.2.2.1 hPx hDx hSs).1
  refine va_callv (va_runIN X.1 (hM H.size) cw ⟨gPre_blind hzz, (gPre_of hzz X.2.1 X.2.2.1 X.2.2.2.1 hPx hDx hSs).2⟩ rfl hn hl0.1 rfl (lv_room hcat) hdg hkn) hSs (fun q _ h => hF q h) hF (fun u t H1 locs1 ht hvm hw hBb hz1 hk1 hS1 => ?_)
  obtain ⟨hP1, -, hD1⟩ := hBb
  rw [ht] at hP1
  obtain ⟨hP2, hD2⟩ := join_last hP hD hk1 hF hP1 hD1
  exact kk u hw H1 locs1 ls hP2 hD2 hS1 hl0
theorem g_pos (is : List Nat) (hn : va_nd is = true) (hs : is.map (fun i => ws[i]?) = ws9.map some) (kk : gG p l e R s m args below meth c D tys A nL Q ws9 k n pc lv st) : gG p l e R s m args below meth c D tys A nL Q ws k n pc lv st := by
  intro H locs ls hP hD hSs hl0
  refine kk H locs ls (hP.sub is ?_) (hD.sub is hn hs) hSs hl0
  have h1 : ∀ (l : List Nat) (r : va_W), l.map (fun i => ws[i]?) = r.map some → l.filterMap (fun i => ws[i]?) = r := by
    intro l
    induction l with
    | nil =>
      intro r h
      cases r with
      | nil => rfl
      | cons a r => exact nomatch h
    | cons i l ih =>
      intro r h
      cases r with
      | nil => exact nomatch h
      | cons a r =>
        rw [List.map_cons, List.map_cons] at h
        obtain ⟨h2, h3⟩ := List.cons.inj h
        rw [List.filterMap_cons, h2]
        exact congrArg _ (ih r h3)
  exact h1 is ws9 hs
theorem g_baldK (X : gC ZZ p s m args meth c D tys A cc Ts own nL ret) (q0 t0 : Nat) {q N : Nat} {cA : ClassId} {f : Nat → Int32} (ha : ws[q0]? = some (q, .inl (cA, N, .inl f))) (ht : tys[t0]? = some (cA, .byte)) {i : Int32} (hin : vp_in i N) (hdg : decode cc pc = .ok (.baload, 1)) (kk : gG p l e R s m args below meth c D tys A nL Q ws k n (pc + 1) lv (.int (f i.toNatClampNeg) :: st)) : gG p l e R s m args below meth c D tys A nL Q ws k n pc lv (.int i :: .ref q :: st) := fun H locs ls hP hD hSs hl0 =>
  va_bald X.1.1 X.1.2.1 X.2.1 hP q0 t0 ha ht hin hdg (kk H locs ls hP hD hSs hl0)
theorem g_bastK (X : gC ZZ p s m args meth c D tys A cc Ts own nL ret) (q0 t0 : Nat) {q N : Nat} {cA : ClassId} {f : Nat → Int32} (ha : ws[q0]? = some (q, .inl (cA, N, .inl f))) (ht : tys[t0]? = some (cA, .byte)) {i x : Int32} (hin : vp_in i N) (hdg : decode cc pc = .ok (.bastore, 1)) (hw : ws.set q0 (q, .inl (cA, N, .inl (upd f i.toNatClampNeg (vp_nar .byte x)))) = ws9) (kk : gG p l e R s m args below meth c D tys A nL Q ws9 k n (pc + 1) lv st) : gG p l e R s m args below meth c D tys A nL Q ws k n pc lv (.int x :: .int i :: .ref q :: st) := by
  subst hw
  intro H locs ls hP hD hSs hl0
  exact va_bast X.1.1 X.1.2.1 X.2.1 hP hD hSs q0 t0 ha ht hin hdg (fun H1 locs1 hP1 hD1 hS1 => kk H1 locs1 ls hP1 hD1 hS1 hl0)
theorem g_alenK (X : gC ZZ p s m args meth c D tys A cc Ts own nL ret) (q0 t0 : Nat) {q : Nat} {cA : ClassId} {x : vp_A} {ty : FieldType} (ha : ws[q0]? = some (q, .inl (cA, x))) (ht : tys[t0]? = some (cA, ty)) {v : Int32} (hv : Int32.ofNat x.1 = v) (hdg : decode cc pc = .ok (.arraylength, 1)) (kk : gG p l e R s m args below meth c D tys A nL Q ws k n (pc + 1) lv (.int v :: st)) : gG p l e R s m args below meth c D tys A nL Q ws k n pc lv (.ref q :: st) := fun H locs ls hP hD hSs hl0 =>
  va_alen X.1.1 X.1.2.1 X.2.1 hP q0 t0 ha ht hv hdg (kk H locs ls hP hD hSs hl0)
theorem g_copyK (X : gC ZZ p s m args meth c D tys A cc Ts own nL ret) {index : Nat} (hlink : Cond.methodLink own index arraycopyName ∈ Ts) (hnat : Cond.native arraycopyName ∈ Ts) (hstat : Cond.static arraycopyName ∈ Ts) (hini : Cond.initialized "java/lang/System" ∈ Ts) (q0 q1 t0 : Nat) {qa qb : Nat} {c0 : ClassId} {n0 n1 : Nat} {f g : Nat → Int32} (he0 : ws[q0]? = some (qa, .inl (c0, n0, .inl f))) (he1 : ws[q1]? = some (qb, .inl (c0, n1, .inl g))) (ht0 : tys[t0]? = some (c0, .byte)) {sq dq n9 : Int32} (h1 : ¬ sq < 0) (h2 : ¬ dq < 0) (h3 : ¬ n9 < 0) (h4 : sq.toNatClampNeg + n9.toNatClampNeg ≤ n0) (h5 : dq.toNatClampNeg + n9.toNatClampNeg ≤ n1) (hfit : ∀ i, fits .byte (.int (f i)) = true) (hframes : 1 ≤ R.frames) (hlocals : (st.map fun v => v.category).sum + (nativeFrameWords "java/lang/System" "arraycopy" 5 + 11) ≤ R.locals) (hdg : decode cc pc = .ok (.invokestatic index, 3)) (hw : ws.set q1 (qb, .inl (c0, n1, .inl (va_cpy f g sq.toNatClampNeg dq.toNatClampNeg n9.toNatClampNeg))) = ws9) (kk : gG p l e R s m args below meth c D tys A nL Q ws9 k n (pc + 3) lv st) : gG p l e R s m args below meth c D tys A nL Q ws k n pc lv (.int n9 :: .int dq :: .ref qb :: .int sq :: .ref qa :: st) := by
  subst hw
  intro H locs ls hP hD hSs hl0
  exact va_copyi X.1.1 X.1.2.1 (X.1.2.2.1.trans hl0.1.symm) X.1.2.2.2.1 (X.1.2.2.2.2 _ hlink) (X.1.2.2.2.2 _ hnat) (X.1.2.2.2.2 _ hstat) (X.1.2.2.2.2 _ hini) X.2.1 hP hD hSs q0 q1 t0 t0 he0 he1 ht0 ht0 rfl h1 h2 h3 h4 h5 (fun i _ => hfit _) hframes hlocals hdg (fun H1 locs1 hP1 hD1 hS1 => kk H1 locs1 ls hP1 hD1 hS1 hl0)
theorem g_cloneK (X : gC ZZ p s m args meth c D tys A cc Ts own nL ret) {index : Nat} (hlink : Cond.methodLink own index ⟨"[B", "clone", "()Ljava/lang/Object;"⟩ ∈ Ts) (hsame : Cond.sameMethod "[B" "java/lang/Object" "clone" "()Ljava/lang/Object;" ∈ Ts) (hnat : Cond.native ⟨"java/lang/Object", "clone", "()Ljava/lang/Object;"⟩ ∈ Ts) (hinst : Cond.instanceMethod ⟨"java/lang/Object", "clone", "()Ljava/lang/Object;"⟩ ∈ Ts) (hsel : Cond.selects "[B" ⟨"[B", "clone", "()Ljava/lang/Object;"⟩ ⟨"java/lang/Object", "clone", "()Ljava/lang/Object;"⟩ ∈ Ts) (hcl : va_Nw (.castable "[B" "java/lang/Cloneable") s) (q0 t0 : Nat) {q N : Nat} {cA : ClassId} {f : Nat → Int32} (ha : ws[q0]? = some (q, .inl (cA, N, .inl f))) (ht : tys[t0]? = some (cA, .byte)) (hfit : ∀ i, fits .byte (.int (f i)) = true) (hframes : 1 ≤ R.frames) (hlocals : (st.map fun v => v.category).sum + 14 ≤ R.locals) (hcells : k + 1 ≤ R.cells) (hslots : n + N ≤ R.slots) (hdg : decode cc pc = .ok (.invokevirtual index, 3)) (kk : ∀ q9 : Nat, gG p l e R s m args below meth c D tys A nL Q (ws ++ [(q9, .inl (cA, N, .inl f))]) (k + 1) (n + N) (pc + 3) lv (.ref q9 :: st)) : gG p l e R s m args below meth c D tys A nL Q ws k n pc lv (.ref q :: st) := by
  intro H locs ls hP hD hSs hl0
  refine va_clone X.1.1 X.1.2.1 (X.1.2.2.1.trans hl0.1.symm) X.1.2.2.2.1 (X.1.2.2.2.2 _ hlink) (X.1.2.2.2.2 _ hsame) (X.1.2.2.2.2 _ hnat) (X.1.2.2.2.2 _ hinst) (X.1.2.2.2.2 _ hsel) hcl X.2.1 hP hD hSs X.2.2.1 q0 t0 ha ht (X.2.1.2 t0 _ ht).2 (fun i v hv => ?_) hframes hlocals hcells hslots hdg (fun q9 H1 hK1 hP1 hD1 hS1 => kk q9 H1 locs ls hP1 hD1 hS1 hl0)
  have hi : i < N := by
    have h9 := (Array.getElem?_eq_some_iff.mp hv).1
    rw [vp_cell_i, arrV_size] at h9
    exact h9
  rw [vp_cell_i, arrV_read _ _ hi] at hv
  cases hv
  exact hfit i
theorem g_castK (X : gC ZZ p s m args meth c D tys A cc Ts own nL ret) {index : Nat} {nm9 : String} (hlink : Cond.classLink own index nm9 ∈ Ts) (q0 : Nat) {q : Nat} {cA : ClassId} {x : vp_A} (ha : ws[q0]? = some (q, .inl (cA, x))) (hnm : s.vm.findClass nm9 = some cA) (hdg : decode cc pc = .ok (.checkcast index, 3)) (kk : gG p l e R s m args below meth c D tys A nL Q ws k n (pc + 3) lv (.ref q :: st)) : gG p l e R s m args below meth c D tys A nL Q ws k n pc lv (.ref q :: st) := fun H locs ls hP hD hSs hl0 =>
  va_castA X.1.1 X.1.2.1 X.1.2.2.2.1 (X.1.2.2.2.2 _ hlink) hP q0 ha hnm hdg (kk H locs ls hP hD hSs hl0)
theorem g_nonnull (X : gC ZZ p s m args meth c D tys A cc Ts own nL ret) {q : Nat} {offq : Int} {tgt : Nat} (hdg : decode cc pc = .ok (.ifnonnull offq, 3)) (ht : (pc : Int) + offq = (tgt : Int)) (kk : gG p l e R s m args below meth c D tys A nL Q ws k n tgt lv st) : gG p l e R s m args below meth c D tys A nL Q ws k n pc lv (.ref q :: st) := fun H locs ls hP hD hSs hl0 => lv_ifnonnull X.1.1 X.1.2.1 hdg ht (kk H locs ls hP hD hSs hl0)
theorem g_ishl (X : gC ZZ p s m args meth c D tys A cc Ts own nL ret) {x y : Int32} (hdg : decode cc pc = .ok (.ishl, 1)) (kk : gG p l e R s m args below meth c D tys A nL Q ws k n (pc + 1) lv (.int (x <<< (y &&& 31)) :: st)) : gG p l e R s m args below meth c D tys A nL Q ws k n pc lv (.int y :: .int x :: st) := fun H locs ls hP hD hSs hl0 => lv_ishl X.1.1 X.1.2.1 hdg (kk H locs ls hP hD hSs hl0)

theorem w_afterI (X : gC ZZ p s m args meth c D tys A cc Ts own nL ret) (hzz : gZ ZZ) {W1 w wc wr : va_W} (isC isR : List Nat) (hC : isC.map (fun i => w[i]?) = wc.map some) (hR : isR.map (fun i => w[i]?) = wr.map some) (hnC : va_nd isC = true) (hn : va_nd isR = true) (hdis : ∀ i ∈ isR, i ∉ isC) {post : Int32 → va_W → Prop} {a9 : Array Value} {av9 : List Value} (hM : cI ZZ D tys l y2 ws2 rm2 wc av9 post mcq msq) (hrun : ∀ (H : Heap) (locs : List Loc) (ls : Array Slot), va_P D vwCl wc H → va_D A wc → va_S A s.heap H locs → lv_has ls nL lv → va_Run p l e R s m args below meth c H locs k n mcq msq (F0 m pc ls st0) st (va_Qi post (gAt D tys (fun w9 : va_W => w9) (va_A wc H.size)) (va_A wc H.size) a9) (va_A wc H.size))
    (kk : ∀ (r1 : Int32) (u : va_W), post r1 u → gG p l e R s m args below meth c D tys A nL Q (W1 ++ (wr ++ u)) (k + mcq) (n + msq) (pc + 3) lv (.int r1 :: st)) : gG p l e R s m args below meth c D tys A nL Q (W1 ++ w) k n pc lv st0 := by
  intro H locs ls hP hD hSs hl0
  have hPx := cut_P hC hP
  have hDx := cut_D hC hnC hD
  have hF := (gPre_of (av := []) hzz X.2.1 X.2.2.1 X.2.2.2.1 hPx hDx hSs).1
  refine va_calli (hrun H locs ls hPx hDx hSs hl0) hSs (fun q _ h => hF q h) hF (fun r1 u t H1 locs1 ht hvm hw hBb hz1 hk1 hS1 => ?_)
  obtain ⟨hP1, -, hD1⟩ := hBb
  rw [ht] at hP1
  obtain ⟨hP2, hD2⟩ := join_W hP hD isC isR hC hR hn hdis hk1 hF hP1 hD1
  exact kk r1 u hw H1 locs1 ls hP2 hD2 hS1 hl0
theorem w_afterV (X : gC ZZ p s m args meth c D tys A cc Ts own nL ret) (hzz : gZ ZZ) {W1 w wc wr : va_W} (isC isR : List Nat) (hC : isC.map (fun i => w[i]?) = wc.map some) (hR : isR.map (fun i => w[i]?) = wr.map some) (hnC : va_nd isC = true) (hn : va_nd isR = true) (hdis : ∀ i ∈ isR, i ∉ isC) {post : va_W → Prop} {a9 : Array Value} {av9 : List Value} (hM : cW0 ZZ D tys l y2 ws2 rm2 wc av9 post mcq msq) (hrun : ∀ (H : Heap) (locs : List Loc) (ls : Array Slot), va_P D vwCl wc H → va_D A wc → va_S A s.heap H locs → lv_has ls nL lv → va_Run p l e R s m args below meth c H locs k n mcq msq (F0 m pc ls st0) st (va_Qv post (gAt D tys (fun w9 : va_W => w9) (va_A wc H.size)) (va_A wc H.size) a9) (va_A wc H.size))
    (kk : ∀ (u : va_W), post u → gG p l e R s m args below meth c D tys A nL Q (W1 ++ (wr ++ u)) (k + mcq) (n + msq) (pc + 3) lv st) : gG p l e R s m args below meth c D tys A nL Q (W1 ++ w) k n pc lv st0 := by
  intro H locs ls hP hD hSs hl0
  have hPx := cut_P hC hP
  have hDx := cut_D hC hnC hD
  have hF := (gPre_of (av := []) hzz X.2.1 X.2.2.1 X.2.2.2.1 hPx hDx hSs).1
  refine va_callv (hrun H locs ls hPx hDx hSs hl0) hSs (fun q _ h => hF q h) hF (fun u t H1 locs1 ht hvm hw hBb hz1 hk1 hS1 => ?_)
  obtain ⟨hP1, -, hD1⟩ := hBb
  rw [ht] at hP1
  obtain ⟨hP2, hD2⟩ := join_W hP hD isC isR hC hR hn hdis hk1 hF hP1 hD1
  exact kk u hw H1 locs1 ls hP2 hD2 hS1 hl0
theorem w_afterQ (X : gC ZZ p s m args meth c D tys A cc Ts own nL ret) (hzz : gZ ZZ) {W1 w wc wr : va_W} (isC isR : List Nat) (hC : isC.map (fun i => w[i]?) = wc.map some) (hR : isR.map (fun i => w[i]?) = wr.map some) (hnC : va_nd isC = true) (hn : va_nd isR = true) (hdis : ∀ i ∈ isR, i ∉ isC) {post : Option Nat → va_W → Prop} {a9 : Array Value} {av9 : List Value} (hM : cQ ZZ D tys l y2 ws2 rm2 wc av9 post mcq msq) (hrun : ∀ (H : Heap) (locs : List Loc) (ls : Array Slot), va_P D vwCl wc H → va_D A wc → va_S A s.heap H locs → lv_has ls nL lv → va_Run p l e R s m args below meth c H locs k n mcq msq (F0 m pc ls st0) st (va_Qq post (gAt D tys (fun w9 : va_W => w9) (va_A wc H.size)) (va_A wc H.size) a9) (va_A wc H.size))
    (kk : ∀ (r1 : Option Nat) (u : va_W), post r1 u → gG p l e R s m args below meth c D tys A nL Q (W1 ++ (wr ++ u)) (k + mcq) (n + msq) (pc + 3) lv (va_rf r1 :: st)) : gG p l e R s m args below meth c D tys A nL Q (W1 ++ w) k n pc lv st0 := by
  intro H locs ls hP hD hSs hl0
  have hPx := cut_P hC hP
  have hDx := cut_D hC hnC hD
  have hF := (gPre_of (av := []) hzz X.2.1 X.2.2.1 X.2.2.2.1 hPx hDx hSs).1
  refine va_callq (hrun H locs ls hPx hDx hSs hl0) hSs (fun q _ h => hF q h) hF (fun r1 u t H1 locs1 ht hvm hw hBb hz1 hk1 hS1 => ?_)
  obtain ⟨hP1, -, hD1⟩ := hBb
  rw [ht] at hP1
  obtain ⟨hP2, hD2⟩ := join_W hP hD isC isR hC hR hn hdis hk1 hF hP1 hD1
  exact kk r1 u hw H1 locs1 ls hP2 hD2 hS1 hl0
end IR
