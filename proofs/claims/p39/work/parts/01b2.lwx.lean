/-! the private methods of AbstractStringBuilder for a StringBuilder: words that the tables do not hold, out of those that they hold -/
theorem lwx_sel {SB : String} {y z : MethodName} {s : State} {args : Array Value} {n : Nat} (hy : y.cls ≠ "java/lang/invoke/MethodHandle" ∧ y.cls ≠ "java/lang/invoke/VarHandle") (hz9 : z.cls ≠ "java/lang/invoke/MethodHandle" ∧ z.cls ≠ "java/lang/invoke/VarHandle")
    (hins : (Cond.instantiable SB n).before args s = true) (hpriv : (Cond.privateMethod y).before args s = true) (hinst : (Cond.instanceMethod y).before args s = true) (hinz : (Cond.instanceMethod z).before args s = true) (hz : (Cond.selects SB z z).before args s = true) (hzc : z.cls = y.cls) : (Cond.selects SB y y).before args s = true := by
  obtain ⟨c, k, hcq, hk, -⟩ := Cond.instantiable_spec hins
  obtain ⟨mk, methM, hnamed, hmethM, -, -⟩ := Cond.instanceMethod_spec hinst
  obtain ⟨mz, methZ, hnamedz, hmethZ, -, -⟩ := Cond.instanceMethod_spec hinz
  have hfound : s.methodFound? y.cls y.name y.desc = some mk := State.methodFound?_of_named hnamed hy
  have hfoundz : s.methodFound? z.cls z.name z.desc = some mz := State.methodFound?_of_named hnamedz hz9
  have hcls : mz.cls = mk.cls := by
    have a := findClass_of_methodNamed hnamed
    have b := findClass_of_methodNamed hnamedz
    rw [hzc] at b
    exact Option.some.inj (b.symm.trans a)
  have hsel : selectMethod {} s.vm c mk = .method mk := selectMethod_private hmethM (Cond.privateMethod_at hpriv mk methM hnamed hmethM)
  simp only [Cond.before, Cond.holds, Cond.value, hcq, hfoundz, hnamedz] at hz
  simp only [Cond.before, Cond.holds, Cond.value, hcq, hfound, hnamed, hsel]
  rw [hcls] at hz
  revert hz
  generalize (s.vm.classes[mk.cls]?).any (fun x => !x.isInterface) = b9
  intro hz
  cases b9 with
  | true => simp
  | false =>
    exfalso
    revert hz
    split <;> simp
def lwx_six : List Cond := [Cond.selects "java/lang/StringBuilder" ⟨"java/lang/AbstractStringBuilder", "appendNull", "()Ljava/lang/AbstractStringBuilder;"⟩ ⟨"java/lang/AbstractStringBuilder", "appendNull", "()Ljava/lang/AbstractStringBuilder;"⟩, Cond.selects "java/lang/StringBuilder" ⟨"java/lang/AbstractStringBuilder", "ensureCapacityInternal", "(I)V"⟩ ⟨"java/lang/AbstractStringBuilder", "ensureCapacityInternal", "(I)V"⟩, Cond.selects "java/lang/StringBuilder" ⟨"java/lang/AbstractStringBuilder", "inflate", "()V"⟩ ⟨"java/lang/AbstractStringBuilder", "inflate", "()V"⟩, Cond.selects "java/lang/StringBuilder" ⟨"java/lang/AbstractStringBuilder", "inflateIfNeededFor", "(Ljava/lang/String;)V"⟩ ⟨"java/lang/AbstractStringBuilder", "inflateIfNeededFor", "(Ljava/lang/String;)V"⟩, Cond.selects "java/lang/StringBuilder" ⟨"java/lang/AbstractStringBuilder", "newCapacity", "(I)I"⟩ ⟨"java/lang/AbstractStringBuilder", "newCapacity", "(I)I"⟩, Cond.selects "java/lang/StringBuilder" ⟨"java/lang/AbstractStringBuilder", "putStringAt", "(ILjava/lang/String;)V"⟩ ⟨"java/lang/AbstractStringBuilder", "putStringAt", "(ILjava/lang/String;)V"⟩]
def lwx_tbl : List Cond := lwx_six ++ lw_tbl
theorem lwx_0 {s : State} {args : Array Value} (hts : ∀ w ∈ lw_tbl, w.before args s = true) : (Cond.selects "java/lang/StringBuilder" ⟨"java/lang/AbstractStringBuilder", "appendNull", "()Ljava/lang/AbstractStringBuilder;"⟩ ⟨"java/lang/AbstractStringBuilder", "appendNull", "()Ljava/lang/AbstractStringBuilder;"⟩).before args s = true :=
  lwx_sel (n := 4) (z := ⟨"java/lang/AbstractStringBuilder", "getValue", "()[B"⟩) ⟨by decide +kernel, by decide +kernel⟩ ⟨by decide +kernel, by decide +kernel⟩ (hts _ (by decide +kernel)) (hts _ (by decide +kernel)) (hts _ (by decide +kernel)) (hts _ (by decide +kernel)) (hts _ (by decide +kernel)) rfl
theorem lwx_1 {s : State} {args : Array Value} (hts : ∀ w ∈ lw_tbl, w.before args s = true) : (Cond.selects "java/lang/StringBuilder" ⟨"java/lang/AbstractStringBuilder", "ensureCapacityInternal", "(I)V"⟩ ⟨"java/lang/AbstractStringBuilder", "ensureCapacityInternal", "(I)V"⟩).before args s = true :=
  lwx_sel (n := 4) (z := ⟨"java/lang/AbstractStringBuilder", "getValue", "()[B"⟩) ⟨by decide +kernel, by decide +kernel⟩ ⟨by decide +kernel, by decide +kernel⟩ (hts _ (by decide +kernel)) (hts _ (by decide +kernel)) (hts _ (by decide +kernel)) (hts _ (by decide +kernel)) (hts _ (by decide +kernel)) rfl
theorem lwx_2 {s : State} {args : Array Value} (hts : ∀ w ∈ lw_tbl, w.before args s = true) : (Cond.selects "java/lang/StringBuilder" ⟨"java/lang/AbstractStringBuilder", "inflate", "()V"⟩ ⟨"java/lang/AbstractStringBuilder", "inflate", "()V"⟩).before args s = true :=
  lwx_sel (n := 4) (z := ⟨"java/lang/AbstractStringBuilder", "getValue", "()[B"⟩) ⟨by decide +kernel, by decide +kernel⟩ ⟨by decide +kernel, by decide +kernel⟩ (hts _ (by decide +kernel)) (hts _ (by decide +kernel)) (hts _ (by decide +kernel)) (hts _ (by decide +kernel)) (hts _ (by decide +kernel)) rfl
theorem lwx_3 {s : State} {args : Array Value} (hts : ∀ w ∈ lw_tbl, w.before args s = true) : (Cond.selects "java/lang/StringBuilder" ⟨"java/lang/AbstractStringBuilder", "inflateIfNeededFor", "(Ljava/lang/String;)V"⟩ ⟨"java/lang/AbstractStringBuilder", "inflateIfNeededFor", "(Ljava/lang/String;)V"⟩).before args s = true :=
  lwx_sel (n := 4) (z := ⟨"java/lang/AbstractStringBuilder", "getValue", "()[B"⟩) ⟨by decide +kernel, by decide +kernel⟩ ⟨by decide +kernel, by decide +kernel⟩ (hts _ (by decide +kernel)) (hts _ (by decide +kernel)) (hts _ (by decide +kernel)) (hts _ (by decide +kernel)) (hts _ (by decide +kernel)) rfl
theorem lwx_4 {s : State} {args : Array Value} (hts : ∀ w ∈ lw_tbl, w.before args s = true) : (Cond.selects "java/lang/StringBuilder" ⟨"java/lang/AbstractStringBuilder", "newCapacity", "(I)I"⟩ ⟨"java/lang/AbstractStringBuilder", "newCapacity", "(I)I"⟩).before args s = true :=
  lwx_sel (n := 4) (z := ⟨"java/lang/AbstractStringBuilder", "getValue", "()[B"⟩) ⟨by decide +kernel, by decide +kernel⟩ ⟨by decide +kernel, by decide +kernel⟩ (hts _ (by decide +kernel)) (hts _ (by decide +kernel)) (hts _ (by decide +kernel)) (hts _ (by decide +kernel)) (hts _ (by decide +kernel)) rfl
theorem lwx_5 {s : State} {args : Array Value} (hts : ∀ w ∈ lw_tbl, w.before args s = true) : (Cond.selects "java/lang/StringBuilder" ⟨"java/lang/AbstractStringBuilder", "putStringAt", "(ILjava/lang/String;)V"⟩ ⟨"java/lang/AbstractStringBuilder", "putStringAt", "(ILjava/lang/String;)V"⟩).before args s = true :=
  lwx_sel (n := 4) (z := ⟨"java/lang/AbstractStringBuilder", "getValue", "()[B"⟩) ⟨by decide +kernel, by decide +kernel⟩ ⟨by decide +kernel, by decide +kernel⟩ (hts _ (by decide +kernel)) (hts _ (by decide +kernel)) (hts _ (by decide +kernel)) (hts _ (by decide +kernel)) (hts _ (by decide +kernel)) rfl
theorem lwx_ok {s : State} {args : Array Value} (hts : ∀ w ∈ lw_tbl, w.before args s = true) : ∀ w ∈ lwx_tbl, w.before args s = true := List.forall_mem_append.mpr ⟨List.forall_mem_cons.mpr ⟨lwx_0 hts, List.forall_mem_cons.mpr ⟨lwx_1 hts, List.forall_mem_cons.mpr ⟨lwx_2 hts, List.forall_mem_cons.mpr ⟨lwx_3 hts, List.forall_mem_cons.mpr ⟨lwx_4 hts, List.forall_mem_cons.mpr ⟨lwx_5 hts, fun _ h => absurd h List.not_mem_nil⟩⟩⟩⟩⟩⟩, hts⟩
