/-! rows over the law's constant texts and the digits' tables; numbers -/
theorem nI_nn {k : Nat} (h : k < 2147483648) : ¬ nI k < 0 := by
  rw [nz0, nq_lt h (by omega)]; omega
theorem nI_cl0 {k N : Nat} (h : k < 2147483648) (hk : k ≤ N) : (0 : Int32).toNatClampNeg + (nI k).toNatClampNeg ≤ N := by
  rw [sb_cl0, nq_clamp h]; omega
theorem nI_cl {i k N : Nat} (hi : i < 2147483648) (h : k < 2147483648) (hk : i + k ≤ N) : (nI i).toNatClampNeg + (nI k).toNatClampNeg ≤ N := by
  rw [nq_clamp hi, nq_clamp h]; exact hk
theorem nI_max {b c : Nat} (hb : b < 2147483648) (hc : c < 2147483648) : (if nI b < nI c then nI c else nI b) = nI (max b c) := by
  by_cases e : b < c
  · rw [if_pos (by rw [nq_lt hb hc]; exact e), Nat.max_eq_right (by omega)]
  · rw [if_neg (by rw [nq_lt hb hc]; exact e), Nat.max_eq_left (by omega)]
theorem nI_minL {b c : Nat} (hb : b < 2147483648) (hc : c < 2147483648) (h : b ≤ c) : (if nI c < nI b then nI c else nI b) = nI b := by
  rw [if_neg (by rw [nq_lt hc hb]; omega)]
theorem nI_vin {k N : Nat} (h : k < 2147483648) (hk : k < N) : vp_in (nI k) N := by
  intro z
  rcases z with z | z
  · exact nI_nn h z
  · rw [nq_clamp h] at z; omega
def tL (i : Nat) : Nat := zLl.getD i 0
def tB (i j : Nat) : Int32 := (zLb.getD i []).getD j 0
theorem tB_fit (i : Nat) : sb_Fit (tB i) := by
  have h : ∀ l ∈ zLb, ∀ x ∈ l, fits .byte (.int x) = true := by decide +kernel
  intro j
  unfold tB
  rw [List.getD_eq_getElem?_getD, List.getD_eq_getElem?_getD]
  cases e : zLb[i]? with
  | none => rfl
  | some l =>
    show fits .byte (.int (l[j]?.getD 0)) = true
    cases e2 : l[j]? with
    | none => rfl
    | some x => exact h l (List.mem_of_getElem? e) x (List.mem_of_getElem? e2)
theorem tL_le (i : Nat) : tL i ≤ 6 := by
  have h : ∀ x ∈ zLl, x ≤ 6 := by decide
  unfold tL
  rw [List.getD_eq_getElem?_getD]
  cases e : zLl[i]? with
  | none => exact Nat.zero_le _
  | some x => exact h x (List.mem_of_getElem? e)
section TR
variable {p : Program} {l : Launch} {e : Env} {R : Room} {s : State} {m : MethodId} {args : Array Value} {below : List Frame} {meth : Method} {c : Code} {D : va_G} {tys : List (ClassId × FieldType)} {A : Nat → Prop} {nL : Nat} {Q : State → Prop} {cc : ByteArray} {Ts : List Cond} {own : String} {ret : Option FieldType} {ZZ : (Nat → Prop) → State → Heap → Prop}
variable {k n pc index : Nat} {lv : List (Nat × Value)} {st : List Value} {ws ws9 : va_W} {aK aO aS aV aT bS bV dA : Nat → Nat}
theorem g_top {x y : Int32} (h : x = y) (kk : gG p l e R s m args below meth c D tys A nL Q ws k n pc lv (.int y :: st)) : gG p l e R s m args below meth c D tys A nL Q ws k n pc lv (.int x :: st) := by
  subst h; exact kk
theorem g_null (X : gC ZZ p s m args meth c D tys A cc Ts own nL ret) (hdg : decode cc pc = .ok (.aconst_null, 1)) (kk : gG p l e R s m args below meth c D tys A nL Q ws k n (pc + 1) lv (.null :: st)) : gG p l e R s m args below meth c D tys A nL Q ws k n pc lv st := fun H locs ls hP hD hSs hl0 => lv_null X.1.1 X.1.2.1 hdg (kk H locs ls hP hD hSs hl0)
theorem g_dOnes (X : gC (ZI aK aO aS aV aT bS bV dA) p s m args meth c D tys A cc Ts own nL ret) (hlink : Cond.fieldLink own index "java/lang/Integer" "DigitOnes" "[B" ∈ Ts) (hdg : decode cc pc = .ok (.getstatic index, 3)) (kk : gG p l e R s m args below meth c D tys A nL Q ws k n (pc + 3) lv (.ref (dA 0) :: st)) : gG p l e R s m args below meth c D tys A nL Q ws k n pc lv st := fun H locs ls hP hD hSs hl0 =>
  va_gets X.1.1 X.1.2.1 X.2.2.2.1.1.2.2.2.1 hSs X.1.2.2.2.1 (X.1.2.2.2.2 _ hlink) (fun _ h9 => h9) hdg (kk H locs ls hP hD hSs hl0)
theorem g_dTens (X : gC (ZI aK aO aS aV aT bS bV dA) p s m args meth c D tys A cc Ts own nL ret) (hlink : Cond.fieldLink own index "java/lang/Integer" "DigitTens" "[B" ∈ Ts) (hdg : decode cc pc = .ok (.getstatic index, 3)) (kk : gG p l e R s m args below meth c D tys A nL Q ws k n (pc + 3) lv (.ref (dA 1) :: st)) : gG p l e R s m args below meth c D tys A nL Q ws k n pc lv st := fun H locs ls hP hD hSs hl0 =>
  va_gets X.1.1 X.1.2.1 X.2.2.2.1.1.2.2.2.2.2.1 hSs X.1.2.2.2.1 (X.1.2.2.2.2 _ hlink) (fun _ h9 => h9) hdg (kk H locs ls hP hD hSs hl0)
theorem g_dig0 (X : gC (ZI aK aO aS aV aT bS bV dA) p s m args meth c D tys A cc Ts own nL ret) {i : Int32} (hin : vp_in i 100) (hdg : decode cc pc = .ok (.baload, 1)) (kk : gG p l e R s m args below meth c D tys A nL Q ws k n (pc + 1) lv (.int (zDo i.toNatClampNeg) :: st)) : gG p l e R s m args below meth c D tys A nL Q ws k n pc lv (.int i :: .ref (dA 0) :: st) := fun H locs ls hP hD hSs hl0 =>
  va_tb X.1.1 X.1.2.1 X.2.2.2.1.1.2.2.2.2.1 hSs hin rfl hdg (kk H locs ls hP hD hSs hl0)
theorem g_dig1 (X : gC (ZI aK aO aS aV aT bS bV dA) p s m args meth c D tys A cc Ts own nL ret) {i : Int32} (hin : vp_in i 100) (hdg : decode cc pc = .ok (.baload, 1)) (kk : gG p l e R s m args below meth c D tys A nL Q ws k n (pc + 1) lv (.int (zDt i.toNatClampNeg) :: st)) : gG p l e R s m args below meth c D tys A nL Q ws k n pc lv (.int i :: .ref (dA 1) :: st) := fun H locs ls hP hD hSs hl0 =>
  va_tb X.1.1 X.1.2.1 X.2.2.2.1.1.2.2.2.2.2.2 hSs hin rfl hdg (kk H locs ls hP hD hSs hl0)
theorem g_tCod (X : gC (ZI aK aO aS aV aT bS bV dA) p s m args meth c D tys A cc Ts own nL ret) {i : Nat} (hi : i < 11) (hlink : Cond.fieldLink own index "java/lang/String" "coder" "B" ∈ Ts) (hdg : decode cc pc = .ok (.getfield index, 3)) (kk : gG p l e R s m args below meth c D tys A nL Q ws k n (pc + 3) lv (.int 0 :: st)) : gG p l e R s m args below meth c D tys A nL Q ws k n pc lv (.ref (bS i) :: st) := fun H locs ls hP hD hSs hl0 =>
  vk_getf X.1.1 X.1.2.1 ((X.2.2.2.1.1.2.2.1 i hi).2.1 0 Nat.zero_lt_one).2.1 hSs X.1.2.2.2.1 (X.1.2.2.2.2 _ hlink) (fun _ h9 => h9) hdg (kk H locs ls hP hD hSs hl0)
theorem g_tVal (X : gC (ZI aK aO aS aV aT bS bV dA) p s m args meth c D tys A cc Ts own nL ret) {i : Nat} (hi : i < 11) (hlink : Cond.fieldLink own index "java/lang/String" "value" "[B" ∈ Ts) (hdg : decode cc pc = .ok (.getfield index, 3)) (kk : gG p l e R s m args below meth c D tys A nL Q ws k n (pc + 3) lv (.ref (bV i) :: st)) : gG p l e R s m args below meth c D tys A nL Q ws k n pc lv (.ref (bS i) :: st) := fun H locs ls hP hD hSs hl0 =>
  vk_getf X.1.1 X.1.2.1 ((X.2.2.2.1.1.2.2.1 i hi).2.1 0 Nat.zero_lt_one).2.2.1 hSs X.1.2.2.2.1 (X.1.2.2.2.2 _ hlink) (fun _ h9 => h9) hdg (kk H locs ls hP hD hSs hl0)
theorem g_tAl (X : gC (ZI aK aO aS aV aT bS bV dA) p s m args meth c D tys A cc Ts own nL ret) {i : Nat} (hi : i < 11) (hdg : decode cc pc = .ok (.arraylength, 1)) (kk : gG p l e R s m args below meth c D tys A nL Q ws k n (pc + 1) lv (.int (nI (tL i)) :: st)) : gG p l e R s m args below meth c D tys A nL Q ws k n pc lv (.ref (bV i) :: st) := fun H locs ls hP hD hSs hl0 =>
  va_tlen X.1.1 X.1.2.1 ((X.2.2.2.1.1.2.2.1 i hi).2.1 0 Nat.zero_lt_one).2.2.2 hSs rfl hdg (kk H locs ls hP hD hSs hl0)
theorem g_tCopy (X : gC (ZI aK aO aS aV aT bS bV dA) p s m args meth c D tys A cc Ts own nL ret) {i : Nat} (hi : i < 11) (hlink : Cond.methodLink own index arraycopyName ∈ Ts) (hnat : Cond.native arraycopyName ∈ Ts) (hstat : Cond.static arraycopyName ∈ Ts) (hini : Cond.initialized "java/lang/System" ∈ Ts) (q1 t1 : Nat) {qb : Nat} {c1 : ClassId} {n1 : Nat} {g : Nat → Int32} (he1 : ws[q1]? = some (qb, .inl (c1, n1, .inl g))) (ht1 : tys[t1]? = some (c1, .byte)) {sq dq n9 : Int32} (h1 : ¬ sq < 0) (h2 : ¬ dq < 0) (h3 : ¬ n9 < 0) (h4 : sq.toNatClampNeg + n9.toNatClampNeg ≤ tL i) (h5 : dq.toNatClampNeg + n9.toNatClampNeg ≤ n1) (hframes : 1 ≤ R.frames) (hlocals : (st.map fun v => v.category).sum + (nativeFrameWords "java/lang/System" "arraycopy" 5 + 11) ≤ R.locals) (hdg : decode cc pc = .ok (.invokestatic index, 3)) (hw : ws.set q1 (qb, .inl (c1, n1, .inl (va_cpy (tB i) g sq.toNatClampNeg dq.toNatClampNeg n9.toNatClampNeg))) = ws9) (kk : gG p l e R s m args below meth c D tys A nL Q ws9 k n (pc + 3) lv st) : gG p l e R s m args below meth c D tys A nL Q ws k n pc lv (.int n9 :: .int dq :: .ref qb :: .int sq :: .ref (bV i) :: st) := by
  subst hw
  intro H locs ls hP hD hSs hl0
  exact vk_copyt X.1.1 X.1.2.1 (X.1.2.2.1.trans hl0.1.symm) X.1.2.2.2.1 (X.1.2.2.2.2 _ hlink) (X.1.2.2.2.2 _ hnat) (X.1.2.2.2.2 _ hstat) (X.1.2.2.2.2 _ hini) X.2.1 hP hD hSs (f := tB i) ((X.2.2.2.1.1.2.2.1 i hi).2.1 0 Nat.zero_lt_one).2.2.2 q1 t1 he1 ht1 h1 h2 h3 h4 h5 (fun j _ => tB_fit i _) hframes hlocals hdg (fun H1 locs1 hP1 hD1 hS1 => kk H1 locs1 ls hP1 hD1 hS1 hl0)
theorem t_recv {H : Heap} {locs : List Loc} (X : gC (ZI aK aO aS aV aT bS bV dA) p s m args meth c D tys A cc Ts own nL ret) {i : Nat} (hi : i < 11) (hSs : va_S A s.heap H locs) : ∃ cell : Cell, H[bS i]? = some cell ∧ cell.vm.isStatics = false ∧ s.vm.findClass "java/lang/String" = some cell.cls :=
  vk_recv (i := 0) (X.2.2.2.1.1.2.2.1 i hi).2 Nat.zero_lt_one hSs
theorem g_ldcT (X : gC (ZI aK aO aS aV aT bS bV dA) p s m args meth c D tys A cc Ts RL nL ret) {i : Nat} (hi : i < 11) (hdg : decode cc pc = .ok (.ldc (zLi.getD i 0), 2)) (kk : gG p l e R s m args below meth c D tys A nL Q ws k n (pc + 2) lv (.ref (bS i) :: st)) : gG p l e R s m args below meth c D tys A nL Q ws k n pc lv st :=
  fun H locs ls hP hD hSs hl0 => va_ldcS X.1.1 X.1.2.1 X.1.2.2.2.1 (X.2.2.2.1.1.2.2.1 i hi).1 hdg (kk H locs ls hP hD hSs hl0)
end TR
