/-! the law's types -/
theorem pk_step {T : List Nat} {k i c9 : Nat} (hki : k ≤ i) (hc : T[i]? = some c9) : ((pkC ((T.drop k).take (i - k)) 0) <<< ((8 : Int32).toInt64 &&& 63)) ||| (nI c9).toInt64 = pkC ((T.drop k).take (i + 1 - k)) 0 := by
  have e : (T.drop k).take (i + 1 - k) = (T.drop k).take (i - k) ++ [c9] := by
    rw [show i + 1 - k = (i - k) + 1 by omega, List.take_add_one, List.getElem?_drop, show k + (i - k) = i by omega, hc]; rfl
  rw [e]
  unfold pkC
  rw [List.foldl_append]; rfl
section GT
variable {p : Program} {l : Launch} {e : Env} {R : Room} {s : State} {m : MethodId} {args : Array Value} {below : List Frame} {meth : Method} {c : Code} {D : va_G} {tys : List (ClassId × FieldType)} {A : Nat → Prop} {nL : Nat} {Q : State → Prop} {k n pc : Nat} {lv : List (Nat × Value)} {st : List Value} {ws ws9 : va_W} {aK aO aS aV aT bS bV dA : Nat → Nat} {y : MethodName} {rm : Room} {av : List Value} {own9 : List Cond}
theorem g_topL {x y : Int64} (h : x = y) (kk : gG p l e R s m args below meth c D tys A nL Q ws k n pc lv (.long y :: st)) : gG p l e R s m args below meth c D tys A nL Q ws k n pc lv (.long x :: st) := by
  subst h; exact kk
theorem mI_upI {S : Type} {Wf : S → va_W} {u u' : S} {r : Int32} (h : mI (ZC aK aO aS aV aT) D tys l y own9 rm Wf av u r u') : mI (ZI aK aO aS aV aT bS bV dA) D tys l y own9 rm Wf av u r u' := fun sz => Met_pre (h sz) fun _ _ h => gPreI_up h
theorem xI_upI {S : Type} {Wf : S → va_W} {u u' : S} {r : String ⊕ Int32} {mcq msq : Nat} (h : xI (ZC aK aO aS aV aT) D tys l y own9 rm Wf av u r u' mcq msq) : xI (ZI aK aO aS aV aT bS bV dA) D tys l y own9 rm Wf av u r u' mcq msq := fun sz => vxMet_pre (h sz) fun _ _ h => gPreI_up h
end GT
section BH9
variable {ZZ : (Nat → Prop) → State → Heap → Prop} {D : va_G} {tys : List (ClassId × FieldType)} {l : Launch} {y : MethodName} {ws ws' : List Cond} {rm : Room} {S : Type} {Wf : S → va_W} {av : List Value} {σ σ' : S} {cc : ByteArray} {maxL : Nat} {ret : Option FieldType}
theorem cIT_of {W0 : va_W} {post : Int32 → va_W → Prop} {mcq msq : Nat} {hh : List (Nat × Nat × Nat × Nat)} (hy : plainName y.cls = true) (hw : ws = Cond.codeWith y cc maxL ret hh :: ws') (hlen : (lg_sl av).length ≤ maxL)
    (body : ∀ (p : Program) (e : Env) (s : State) (m : MethodId) (args : Array Value) (below : List Frame) (meth : Method) (c : Code) (A : Nat → Prop), gC ZZ p s m args meth c D tys A cc ws y.cls maxL ret → gG p l e rm s m args below meth c D tys A maxL (MQ below (va_Qi post (gAt D tys (fun w : va_W => w) A) A) args s mcq msq A) W0 0 0 0 (lv_args 0 av) []) : cI ZZ D tys l y ws rm W0 av post mcq msq := by
  intro sz
  refine MetFree.of_bodyS (code := cc) (maxLocals := maxL) (ret := ret) hy ?_ ?_
  · intro args s m h hn
    obtain ⟨m9, meth, c, hn9, h1, h2, h3, h4, -, h5, h6, -⟩ := Cond.codeWith_spec (atoms_spec (ws := ws) h _ (by rw [hw]; exact List.mem_cons_self))
    cases hn.symm.trans hn9
    exact ⟨meth, c, h1, h2, h3, h4, h5, h6⟩
  · intro p e s m args below meth c s₁ B hml0 hv _
    have hts := atoms_spec (ws := ws) B.pre
    have hcw : (Cond.codeWith y cc maxL ret hh).before args s = true := hts _ (by rw [hw]; exact List.mem_cons_self)
    have hml : c.maxLocals = maxL := by
      obtain ⟨m9, meth9, c9, hn9, h1, h2, -, h4, -⟩ := Cond.codeWith_spec hcw
      exact hml0
    obtain ⟨rfl, hsz, hP, hK, hD0, hZ⟩ := hv
    subst hsz
    have hown : s.vm.findClass y.cls = some m.cls := findClass_of_methodNamed B.named
    have hD := hD0.self (sz := s.heap.size)
    have hl := lv_entry av (n := maxL) hlen
    have hh0 : s₁.heap = s.heap := by rw [B.state]; rfl
    have K := body p e s m av.toArray below meth c (va_A W0 s.heap.size) ⟨⟨B.exec, B.bytes, hml, hown, hts⟩, hK, fun q h => Or.inr h, hZ, B.returns, B.notSynchronized⟩ s.heap [] _ hP hD va_S.rf hl
    rw [← lg_entry_eq] at K
    obtain ⟨t, a1, o, b1, b2, b3⟩ := K s₁ hh0 (Stand.of_body B)
    exact ⟨t, o, a1, b1, b2, ⟨b3.1, b3.2⟩⟩
end BH9
section TR4
variable {l : Launch} {D : va_G} {cy : Nat → ClassId} {aK aO aS aV aT bS bV dA A B : Nat → Nat}
abbrev rmS_types : Room := { frames := 12, cells := 0, slots := 0, locals := 307 }
set_option maxHeartbeats 16000000 in
set_option maxRecDepth 100000 in
theorem t_types {X8 : va_W} {σ ρ : St} {a : AS} {R : QR} {qs vs ns : Nat} {fs : Nat → Int32} {T : List Nat} (hl : l.stackTraces = false) (hq : qIN a R σ) (hlt : lt2 T ns fs) (hT : ∀ x, x ∈ T → 1 ≤ x ∧ x < 128) (hns : ns ≤ 130) (h0 : 0 < ns) (hf : ∀ σ1, qIN a R σ1 → TXc T σ1 → ∃ σ2, f_X10_fault σ1 = some (-nI 1, σ2) ∧ qIN a R σ2 ∧ TXc T σ2) : cI (ZI aK aO aS aV aT bS bV dA) D (cyT cy) l yL_types wsL_types rmS_types (lW cy A aK B (X8 ++ [(qs, .inr (0, [.ref vs, .int 0, .int 0, .int 0])), (vs, .inl (cy 1, ns, .inl fs))]) σ ρ) [.ref (A 0), .ref qs] (fun r9 u9 => ∃ σ9 : St, r9 = 1 ∧ u9 = lW cy A aK B (X8 ++ [(qs, .inr (0, [.ref vs, .int 0, .int 0, .int 0])), (vs, .inl (cy 1, ns, .inl fs))]) σ9 ρ ∧ qIN a R σ9 ∧ TXc T σ9) 0 0 := by
  refine cIT_of (cc := cL_types) (maxL := 7) (ret := (some .boolean)) (hh := [(62, 69, 72, 77)]) (by decide) rfl (Nat.le_of_ble_eq_true rfl) (fun p e s m args below meth c B9 X => ?_)
  have hTl := hlt.1
  have Kend : ∀ (σ1 : St) (k : Nat), qIN a R σ1 → TXc T σ1 → gG p l e rmS_types s m args below meth c D (cyT cy) B9 7 (MQ below (va_Qi (fun r9 u9 => ∃ σ9 : St, r9 = 1 ∧ u9 = lW cy A aK B (X8 ++ [(qs, .inr (0, [.ref vs, .int 0, .int 0, .int 0])), (vs, .inl (cy 1, ns, .inl fs))]) σ9 ρ ∧ qIN a R σ9 ∧ TXc T σ9) (gAt D (cyT cy) (fun w9 : va_W => w9) B9) B9) args s 0 0 B9) (lW cy A aK B X8 σ1 ρ ++ [(qs, .inr (0, [.ref vs, .int 0, .int 0, .int 0])), (vs, .inl (cy 1, ns, .inl fs))]) 0 0 82 [(3, .int (nI k)), (2, .int (nI ns)), (1, .ref qs), (0, .ref (A 0))] [] := by
    intro σ1 k q1 x1
    obtain ⟨σ2, e2, q2, x2⟩ := hf σ1 q1 x1
    refine g_iload_n X dL_types_82 rfl 1 rfl ?_
    refine g_aload_n X dL_types_83 rfl 2 rfl ?_
    refine w_afterI (W1 := lW cy A aK B X8 σ1 ρ) (w := [(qs, .inr (0, [.ref vs, .int 0, .int 0, .int 0])), (vs, .inl (cy 1, ns, .inl fs))]) (wc := [(qs, .inr (0, [.ref vs, .int 0, .int 0, .int 0])), (vs, .inl (cy 1, ns, .inl fs))]) (wr := []) X (ZI_ok _ _ _ _ _ _ _ _) [0, 1] [] rfl rfl rfl rfl (by decide) (hM := (t_slen (l := l) (D := D) (cy := cy) (aK := aK) (aO := aO) (aS := aS) (aV := aV) (aT := aT) (bS := bS) (bV := bV) (dA := dA) (qs := qs) (vs := vs) (ns := ns) (fs := fs) (h9 := 0) (z9 := 0))) (st := [.int (nI ns)]) (mcq := 0) (msq := 0) (a9 := ([.ref qs] : List Value).toArray) (fun H locs ls hP hD hSs hl0 => ?_) ?_
    · exact va_runV (As := []) X.1 ((t_slen (l := l) (D := D) (cy := cy) (aK := aK) (aO := aO) (aS := aS) (aV := aV) (aT := aT) (bS := bS) (bV := bV) (dA := dA) (qs := qs) (vs := vs) (ns := ns) (fs := fs) (h9 := 0) (z9 := 0)) H.size) (cwV 0 X.1.2.2.2.2 gL_types_J0_length_8abf5 rfl rfl rfl (by decide +kernel) ⟨Nat.le_of_ble_eq_true rfl, Nat.le_of_ble_eq_true rfl⟩) ⟨gPre_blind (ZI_ok _ _ _ _ _ _ _ _), va_recv (q0 := 0) X.2.1 hP rfl rfl, (gPre_of (ZI_ok _ _ _ _ _ _ _ _) X.2.1 X.2.2.1 X.2.2.2.1 hP hD hSs).2⟩ rfl rfl hl0.1 rfl (lv_room (Nat.le_of_ble_eq_true rfl)) dL_types_84 ⟨by show 0 + 0 ≤ 0; omega, by show 0 + 0 ≤ 0; omega⟩
    rintro r9 u9 ⟨rfl, rfl⟩
    refine g_weq (ws9 := lW cy A aK B X8 σ1 ρ ++ ([(qs, .inr (0, [.ref vs, .int 0, .int 0, .int 0])), (vs, .inl (cy 1, ns, .inl fs))] : va_W)) rfl ?_
    refine g_icmp_ne X (tgt := 102) dL_types_87 (by decide) (fun h9 => absurd (rfl) h9) (fun _ => ?_)
    refine g_aload_n X dL_types_90 rfl 3 rfl ?_
    refine g_weq (ws9 := lW cy A aK B (X8 ++ ([(qs, .inr (0, [.ref vs, .int 0, .int 0, .int 0])), (vs, .inl (cy 1, ns, .inl fs))] : va_W)) σ1 ρ) lW_app.symm ?_
    refine g_callVI (AD := A) (As := []) X (ZI_ok _ _ _ _ _ _ _ _) (mI_upI (m_X10_fault e2)) (cwV 0 X.1.2.2.2.2 gL_types_X10_fault rfl rfl rfl (by decide +kernel) ⟨Nat.le_of_ble_eq_true rfl, Nat.le_of_ble_eq_true rfl⟩) rfl cm0 (cE_0 cy A aK σ1) rfl rfl (Nat.le_of_ble_eq_true rfl) ⟨by show 0 + 0 ≤ 0; omega, by show 0 + 0 ≤ 0; omega⟩ dL_types_91 ?_
    refine g_weq (ws9 := lW cy A aK B X8 σ2 ρ ++ ([(qs, .inr (0, [.ref vs, .int 0, .int 0, .int 0])), (vs, .inl (cy 1, ns, .inl fs))] : va_W)) (by exact lW_app) ?_
    refine g_iconst X dL_types_94 (v := (-1 : Int32)) (by decide) ?_
    refine g_icmp_ne X (tgt := 102) dL_types_95 (by decide) (fun h9 => absurd (rfl) h9) (fun _ => ?_)
    refine g_iconst X dL_types_98 (v := (1 : Int32)) (by decide) ?_
    refine g_goto X (tgt := 103) dL_types_99 (by decide) ?_
    exact g_zret (Wf := fun w9 : va_W => w9) (u := lW cy A aK B X8 σ2 ρ ++ ([(qs, .inr (0, [.ref vs, .int 0, .int 0, .int 0])), (vs, .inl (cy 1, ns, .inl fs))] : va_W)) X (by exact rfl) (by exact ⟨σ2, rfl, lW_app.symm, q2, x2⟩) dL_types_103
  have K9 : ∀ (d : Nat) (k : Nat) (r2 : Int32) (σ1 : St), ns ≤ k + d → k ≤ 1000 → qIN a R σ1 → TXc (T.take k) σ1 → (k < ns ∨ r2 = nI ns) → gG p l e rmS_types s m args below meth c D (cyT cy) B9 7 (MQ below (va_Qi (fun r9 u9 => ∃ σ9 : St, r9 = 1 ∧ u9 = lW cy A aK B (X8 ++ [(qs, .inr (0, [.ref vs, .int 0, .int 0, .int 0])), (vs, .inl (cy 1, ns, .inl fs))]) σ9 ρ ∧ qIN a R σ9 ∧ TXc T σ9) (gAt D (cyT cy) (fun w9 : va_W => w9) B9) B9) args s 0 0 B9) (lW cy A aK B X8 σ1 ρ ++ [(qs, .inr (0, [.ref vs, .int 0, .int 0, .int 0])), (vs, .inl (cy 1, ns, .inl fs))]) 0 0 9 [(3, .int (nI k)), (2, .int r2), (1, .ref qs), (0, .ref (A 0))] [] := by
    intro d
    induction d using Nat.strongRecOn with
    | _ d ih =>
      intro k r2 σ1 hd hk9 q1 x1 hr
      refine g_iload_n X dL_types_9 rfl 0 rfl ?_
      refine g_aload_n X dL_types_10 rfl 2 rfl ?_
      refine w_afterI (W1 := lW cy A aK B X8 σ1 ρ) (w := [(qs, .inr (0, [.ref vs, .int 0, .int 0, .int 0])), (vs, .inl (cy 1, ns, .inl fs))]) (wc := [(qs, .inr (0, [.ref vs, .int 0, .int 0, .int 0])), (vs, .inl (cy 1, ns, .inl fs))]) (wr := []) X (ZI_ok _ _ _ _ _ _ _ _) [0, 1] [] rfl rfl rfl rfl (by decide) (hM := (t_slen (l := l) (D := D) (cy := cy) (aK := aK) (aO := aO) (aS := aS) (aV := aV) (aT := aT) (bS := bS) (bV := bV) (dA := dA) (qs := qs) (vs := vs) (ns := ns) (fs := fs) (h9 := 0) (z9 := 0))) (st := [.int (nI k)]) (mcq := 0) (msq := 0) (a9 := ([.ref qs] : List Value).toArray) (fun H locs ls hP hD hSs hl0 => ?_) ?_
      · exact va_runV (As := []) X.1 ((t_slen (l := l) (D := D) (cy := cy) (aK := aK) (aO := aO) (aS := aS) (aV := aV) (aT := aT) (bS := bS) (bV := bV) (dA := dA) (qs := qs) (vs := vs) (ns := ns) (fs := fs) (h9 := 0) (z9 := 0)) H.size) (cwV 0 X.1.2.2.2.2 gL_types_J0_length_8abf5 rfl rfl rfl (by decide +kernel) ⟨Nat.le_of_ble_eq_true rfl, Nat.le_of_ble_eq_true rfl⟩) ⟨gPre_blind (ZI_ok _ _ _ _ _ _ _ _), va_recv (q0 := 0) X.2.1 hP rfl rfl, (gPre_of (ZI_ok _ _ _ _ _ _ _ _) X.2.1 X.2.2.1 X.2.2.2.1 hP hD hSs).2⟩ rfl rfl hl0.1 rfl (lv_room (Nat.le_of_ble_eq_true rfl)) dL_types_11 ⟨by show 0 + 0 ≤ 0; omega, by show 0 + 0 ≤ 0; omega⟩
      rintro r9 u9 ⟨rfl, rfl⟩
      refine g_weq (ws9 := lW cy A aK B X8 σ1 ρ ++ ([(qs, .inr (0, [.ref vs, .int 0, .int 0, .int 0])), (vs, .inl (cy 1, ns, .inl fs))] : va_W)) rfl ?_
      by_cases hk : ns ≤ k
      · refine g_icmp_ge X (tgt := 82) dL_types_14 (by decide) (fun _ => ?_) (fun h9 => absurd (by rw [nq_le (by omega) (by omega)]; exact hk) h9)
        have hr2 : r2 = nI ns := hr.resolve_left (by omega)
        subst hr2
        rw [List.take_of_length_le (by omega)] at x1
        exact Kend σ1 k q1 x1
      · refine g_icmp_ge X (tgt := 82) dL_types_14 (by decide) (fun h9 => absurd h9 (by rw [nq_le (by omega) (by omega)]; exact hk)) (fun _ => ?_)
        refine g_lconst X dL_types_17 (v := (0 : Int64)) (by decide) ?_
        refine g_lstore X dL_types_18 (by decide) (lv' := [(4, .long (0 : Int64)), (3, .int (nI k)), (2, .int r2), (1, .ref qs), (0, .ref (A 0))]) rfl ?_
        refine g_iload_n X dL_types_20 rfl 1 rfl ?_
        refine g_istore X dL_types_21 (by decide) (lv' := [(6, .int (nI k)), (4, .long (0 : Int64)), (3, .int (nI k)), (2, .int r2), (1, .ref qs), (0, .ref (A 0))]) rfl ?_
        have KI : ∀ (d9 i : Nat), min (k + 8) ns - i = d9 → k ≤ i → i ≤ min (k + 8) ns → gG p l e rmS_types s m args below meth c D (cyT cy) B9 7 (MQ below (va_Qi (fun r9 u9 => ∃ σ9 : St, r9 = 1 ∧ u9 = lW cy A aK B (X8 ++ [(qs, .inr (0, [.ref vs, .int 0, .int 0, .int 0])), (vs, .inl (cy 1, ns, .inl fs))]) σ9 ρ ∧ qIN a R σ9 ∧ TXc T σ9) (gAt D (cyT cy) (fun w9 : va_W => w9) B9) B9) args s 0 0 B9) (lW cy A aK B X8 σ1 ρ ++ [(qs, .inr (0, [.ref vs, .int 0, .int 0, .int 0])), (vs, .inl (cy 1, ns, .inl fs))]) 0 0 23 [(6, .int (nI i)), (4, .long (pkC ((T.drop k).take (i - k)) 0)), (3, .int (nI k)), (2, .int r2), (1, .ref qs), (0, .ref (A 0))] [] := by
          intro d9
          induction d9 with
          | zero =>
            intro i hd9 hki hi
            have hi2 : i = min (k + 8) ns := by omega
            by_cases h8 : i = k + 8
            · refine g_iload X dL_types_23 0 rfl ?_
              refine g_iload_n X dL_types_25 rfl 2 rfl ?_
              refine g_bipush X dL_types_26 (v := (8 : Int32)) (by decide) ?_
              refine g_iadd X dL_types_28 ?_
              refine g_top (y := nI (k + 8)) (nq_add k 8) ?_
              refine g_icmp_ge X (tgt := 62) dL_types_29 (by decide) (fun _ => ?_) (fun h9 => absurd (by rw [nq_le (by omega) (by omega)]; omega) h9)
              obtain ⟨σ2, e2, q2, x2⟩ := E_type q1 (C := (T.drop k).take (i - k)) x1 (by rw [List.length_take]; omega) (fun x hx => hT x (List.mem_of_mem_drop (List.mem_of_mem_take hx))) (by rw [List.length_take, List.length_take, List.length_drop]; omega)
              rw [show (T.take k).length + ((T.drop k).take (i - k)).length = i by rw [List.length_take, List.length_take, List.length_drop]; omega] at e2
              rw [show T.take k ++ (T.drop k).take (i - k) = T.take i by rw [← List.take_add]; congr 1; omega] at x2
              refine g_aload_n X dL_types_62 rfl 5 rfl ?_
              refine g_lload X dL_types_63 1 rfl ?_
              refine g_weq (ws9 := lW cy A aK B (X8 ++ ([(qs, .inr (0, [.ref vs, .int 0, .int 0, .int 0])), (vs, .inl (cy 1, ns, .inl fs))] : va_W)) σ1 ρ) lW_app.symm ?_
              refine g_xVI_ret (AD := A) (As := [.long (pkC ((T.drop k).take (i - k)) 0)]) X (ZI_ok _ _ _ _ _ _ _ _) (xI_upI (m_X10_type hl e2)) (cwV 1 X.1.2.2.2.2 gL_types_X10_type rfl rfl rfl (by decide +kernel) ⟨Nat.le_of_ble_eq_true rfl, Nat.le_of_ble_eq_true rfl⟩) rfl cm0 (cE_0 cy A aK σ1) rfl rfl (Nat.le_of_ble_eq_true rfl) ⟨by show 0 + 0 ≤ 0; omega, by show 0 + 0 ≤ 0; omega⟩ dL_types_65 (k' := 0) (n' := 0) (thrC_k _ _) (thrS_k _ _) ?_
              refine g_weq (ws9 := lW cy A aK B X8 σ2 ρ ++ ([(qs, .inr (0, [.ref vs, .int 0, .int 0, .int 0])), (vs, .inl (cy 1, ns, .inl fs))] : va_W)) (by exact lW_app) ?_
              refine g_istore_n X dL_types_68 rfl (by decide) (lv' := [(2, .int (nI i)), (6, .int (nI i)), (4, .long (pkC ((T.drop k).take (i - k)) 0)), (3, .int (nI k)), (1, .ref qs), (0, .ref (A 0))]) rfl ?_
              refine g_goto X (tgt := 76) dL_types_69 (by decide) ?_
              refine g_iinc X dL_types_76 3 rfl (v := nI (k + 8)) (nq_add k 8) (by decide) (lv' := [(3, .int (nI (k + 8))), (2, .int (nI i)), (6, .int (nI i)), (4, .long (pkC ((T.drop k).take (i - k)) 0)), (1, .ref qs), (0, .ref (A 0))]) rfl ?_
              refine g_goto X (tgt := 9) dL_types_79 (by decide) ?_
              refine g_sub [0, 1, 4, 5] (lv' := [(3, .int (nI (k + 8))), (2, .int (nI i)), (1, .ref qs), (0, .ref (A 0))]) rfl ?_
              subst h8
              refine ih (ns - (k + 8)) (by omega) (k + 8) _ σ2 (by omega) (by omega) q2 x2 ?_
              by_cases hz : k + 8 < ns
              · exact Or.inl hz
              · exact Or.inr (by rw [show k + 8 = ns by omega])
            · refine g_iload X dL_types_23 0 rfl ?_
              refine g_iload_n X dL_types_25 rfl 2 rfl ?_
              refine g_bipush X dL_types_26 (v := (8 : Int32)) (by decide) ?_
              refine g_iadd X dL_types_28 ?_
              refine g_top (y := nI (k + 8)) (nq_add k 8) ?_
              refine g_icmp_ge X (tgt := 62) dL_types_29 (by decide) (fun h9 => absurd h9 (by rw [nq_le (by omega) (by omega)]; omega)) (fun _ => ?_)
              refine g_iload X dL_types_32 0 rfl ?_
              refine g_aload_n X dL_types_34 rfl 4 rfl ?_
              refine w_afterI (W1 := lW cy A aK B X8 σ1 ρ) (w := [(qs, .inr (0, [.ref vs, .int 0, .int 0, .int 0])), (vs, .inl (cy 1, ns, .inl fs))]) (wc := [(qs, .inr (0, [.ref vs, .int 0, .int 0, .int 0])), (vs, .inl (cy 1, ns, .inl fs))]) (wr := []) X (ZI_ok _ _ _ _ _ _ _ _) [0, 1] [] rfl rfl rfl rfl (by decide) (hM := (t_slen (l := l) (D := D) (cy := cy) (aK := aK) (aO := aO) (aS := aS) (aV := aV) (aT := aT) (bS := bS) (bV := bV) (dA := dA) (qs := qs) (vs := vs) (ns := ns) (fs := fs) (h9 := 0) (z9 := 0))) (st := [.int (nI i)]) (mcq := 0) (msq := 0) (a9 := ([.ref qs] : List Value).toArray) (fun H locs ls hP hD hSs hl0 => ?_) ?_
              · exact va_runV (As := []) X.1 ((t_slen (l := l) (D := D) (cy := cy) (aK := aK) (aO := aO) (aS := aS) (aV := aV) (aT := aT) (bS := bS) (bV := bV) (dA := dA) (qs := qs) (vs := vs) (ns := ns) (fs := fs) (h9 := 0) (z9 := 0)) H.size) (cwV 0 X.1.2.2.2.2 gL_types_J0_length_8abf5 rfl rfl rfl (by decide +kernel) ⟨Nat.le_of_ble_eq_true rfl, Nat.le_of_ble_eq_true rfl⟩) ⟨gPre_blind (ZI_ok _ _ _ _ _ _ _ _), va_recv (q0 := 0) X.2.1 hP rfl rfl, (gPre_of (ZI_ok _ _ _ _ _ _ _ _) X.2.1 X.2.2.1 X.2.2.2.1 hP hD hSs).2⟩ rfl rfl hl0.1 rfl (lv_room (Nat.le_of_ble_eq_true rfl)) dL_types_35 ⟨by show 0 + 0 ≤ 0; omega, by show 0 + 0 ≤ 0; omega⟩
              rintro r9 u9 ⟨rfl, rfl⟩
              refine g_weq (ws9 := lW cy A aK B X8 σ1 ρ ++ ([(qs, .inr (0, [.ref vs, .int 0, .int 0, .int 0])), (vs, .inl (cy 1, ns, .inl fs))] : va_W)) rfl ?_
              refine g_icmp_ge X (tgt := 62) dL_types_38 (by decide) (fun _ => ?_) (fun h9 => absurd (by rw [nq_le (by omega) (by omega)]; omega) h9)
              obtain ⟨σ2, e2, q2, x2⟩ := E_type q1 (C := (T.drop k).take (i - k)) x1 (by rw [List.length_take]; omega) (fun x hx => hT x (List.mem_of_mem_drop (List.mem_of_mem_take hx))) (by rw [List.length_take, List.length_take, List.length_drop]; omega)
              rw [show (T.take k).length + ((T.drop k).take (i - k)).length = i by rw [List.length_take, List.length_take, List.length_drop]; omega] at e2
              rw [show T.take k ++ (T.drop k).take (i - k) = T.take i by rw [← List.take_add]; congr 1; omega] at x2
              refine g_aload_n X dL_types_62 rfl 5 rfl ?_
              refine g_lload X dL_types_63 1 rfl ?_
              refine g_weq (ws9 := lW cy A aK B (X8 ++ ([(qs, .inr (0, [.ref vs, .int 0, .int 0, .int 0])), (vs, .inl (cy 1, ns, .inl fs))] : va_W)) σ1 ρ) lW_app.symm ?_
              refine g_xVI_ret (AD := A) (As := [.long (pkC ((T.drop k).take (i - k)) 0)]) X (ZI_ok _ _ _ _ _ _ _ _) (xI_upI (m_X10_type hl e2)) (cwV 1 X.1.2.2.2.2 gL_types_X10_type rfl rfl rfl (by decide +kernel) ⟨Nat.le_of_ble_eq_true rfl, Nat.le_of_ble_eq_true rfl⟩) rfl cm0 (cE_0 cy A aK σ1) rfl rfl (Nat.le_of_ble_eq_true rfl) ⟨by show 0 + 0 ≤ 0; omega, by show 0 + 0 ≤ 0; omega⟩ dL_types_65 (k' := 0) (n' := 0) (thrC_k _ _) (thrS_k _ _) ?_
              refine g_weq (ws9 := lW cy A aK B X8 σ2 ρ ++ ([(qs, .inr (0, [.ref vs, .int 0, .int 0, .int 0])), (vs, .inl (cy 1, ns, .inl fs))] : va_W)) (by exact lW_app) ?_
              refine g_istore_n X dL_types_68 rfl (by decide) (lv' := [(2, .int (nI i)), (6, .int (nI i)), (4, .long (pkC ((T.drop k).take (i - k)) 0)), (3, .int (nI k)), (1, .ref qs), (0, .ref (A 0))]) rfl ?_
              refine g_goto X (tgt := 76) dL_types_69 (by decide) ?_
              refine g_iinc X dL_types_76 3 rfl (v := nI (k + 8)) (nq_add k 8) (by decide) (lv' := [(3, .int (nI (k + 8))), (2, .int (nI i)), (6, .int (nI i)), (4, .long (pkC ((T.drop k).take (i - k)) 0)), (1, .ref qs), (0, .ref (A 0))]) rfl ?_
              refine g_goto X (tgt := 9) dL_types_79 (by decide) ?_
              refine g_sub [0, 1, 4, 5] (lv' := [(3, .int (nI (k + 8))), (2, .int (nI i)), (1, .ref qs), (0, .ref (A 0))]) rfl ?_
              have hin : i = ns := by omega
              refine ih 0 (by omega) (k + 8) _ σ2 (by omega) (by omega) q2 ?_ (Or.inr (by rw [hin]))
              rw [List.take_of_length_le (show T.length ≤ k + 8 by omega)]
              rw [List.take_of_length_le (show T.length ≤ i by omega)] at x2
              exact x2
          | succ d9 ih9 =>
            intro i hd9 hki hi
            obtain ⟨c9, hc⟩ : ∃ c9, T[i]? = some c9 := ⟨_, List.getElem?_eq_getElem (show i < T.length by omega)⟩
            obtain ⟨hc2, hc3⟩ := hlt.2 i c9 hc
            refine g_iload X dL_types_23 0 rfl ?_
            refine g_iload_n X dL_types_25 rfl 2 rfl ?_
            refine g_bipush X dL_types_26 (v := (8 : Int32)) (by decide) ?_
            refine g_iadd X dL_types_28 ?_
            refine g_top (y := nI (k + 8)) (nq_add k 8) ?_
            refine g_icmp_ge X (tgt := 62) dL_types_29 (by decide) (fun h9 => absurd h9 (by rw [nq_le (by omega) (by omega)]; omega)) (fun _ => ?_)
            refine g_iload X dL_types_32 0 rfl ?_
            refine g_aload_n X dL_types_34 rfl 4 rfl ?_
            refine w_afterI (W1 := lW cy A aK B X8 σ1 ρ) (w := [(qs, .inr (0, [.ref vs, .int 0, .int 0, .int 0])), (vs, .inl (cy 1, ns, .inl fs))]) (wc := [(qs, .inr (0, [.ref vs, .int 0, .int 0, .int 0])), (vs, .inl (cy 1, ns, .inl fs))]) (wr := []) X (ZI_ok _ _ _ _ _ _ _ _) [0, 1] [] rfl rfl rfl rfl (by decide) (hM := (t_slen (l := l) (D := D) (cy := cy) (aK := aK) (aO := aO) (aS := aS) (aV := aV) (aT := aT) (bS := bS) (bV := bV) (dA := dA) (qs := qs) (vs := vs) (ns := ns) (fs := fs) (h9 := 0) (z9 := 0))) (st := [.int (nI i)]) (mcq := 0) (msq := 0) (a9 := ([.ref qs] : List Value).toArray) (fun H locs ls hP hD hSs hl0 => ?_) ?_
            · exact va_runV (As := []) X.1 ((t_slen (l := l) (D := D) (cy := cy) (aK := aK) (aO := aO) (aS := aS) (aV := aV) (aT := aT) (bS := bS) (bV := bV) (dA := dA) (qs := qs) (vs := vs) (ns := ns) (fs := fs) (h9 := 0) (z9 := 0)) H.size) (cwV 0 X.1.2.2.2.2 gL_types_J0_length_8abf5 rfl rfl rfl (by decide +kernel) ⟨Nat.le_of_ble_eq_true rfl, Nat.le_of_ble_eq_true rfl⟩) ⟨gPre_blind (ZI_ok _ _ _ _ _ _ _ _), va_recv (q0 := 0) X.2.1 hP rfl rfl, (gPre_of (ZI_ok _ _ _ _ _ _ _ _) X.2.1 X.2.2.1 X.2.2.2.1 hP hD hSs).2⟩ rfl rfl hl0.1 rfl (lv_room (Nat.le_of_ble_eq_true rfl)) dL_types_35 ⟨by show 0 + 0 ≤ 0; omega, by show 0 + 0 ≤ 0; omega⟩
            rintro r9 u9 ⟨rfl, rfl⟩
            refine g_weq (ws9 := lW cy A aK B X8 σ1 ρ ++ ([(qs, .inr (0, [.ref vs, .int 0, .int 0, .int 0])), (vs, .inl (cy 1, ns, .inl fs))] : va_W)) rfl ?_
            refine g_icmp_ge X (tgt := 62) dL_types_38 (by decide) (fun h9 => absurd h9 (by rw [nq_le (by omega) (by omega)]; omega)) (fun _ => ?_)
            refine g_lload X dL_types_41 1 rfl ?_
            refine g_bipush X dL_types_43 (v := (8 : Int32)) (by decide) ?_
            refine g_lshl X dL_types_45 ?_
            refine g_aload_n X dL_types_46 rfl 4 rfl ?_
            refine g_iload X dL_types_47 0 rfl ?_
            refine w_afterI (W1 := lW cy A aK B X8 σ1 ρ) (w := [(qs, .inr (0, [.ref vs, .int 0, .int 0, .int 0])), (vs, .inl (cy 1, ns, .inl fs))]) (wc := [(qs, .inr (0, [.ref vs, .int 0, .int 0, .int 0])), (vs, .inl (cy 1, ns, .inl fs))]) (wr := []) X (ZI_ok _ _ _ _ _ _ _ _) [0, 1] [] rfl rfl rfl rfl (by decide) (hM := (t_hch (l := l) (D := D) (cy := cy) (aK := aK) (aO := aO) (aS := aS) (aV := aV) (aT := aT) (bS := bS) (bV := bV) (dA := dA) (qs := qs) (h9 := 0) (z9 := 0) (vs := vs) (ns := ns) (j9 := i) (fs := fs) (c9 := c9) (by omega) (by omega) hc3 hc2)) (st := [.long ((pkC ((T.drop k).take (i - k)) 0) <<< ((8 : Int32).toInt64 &&& 63))]) (mcq := 0) (msq := 0) (a9 := ([.ref qs, .int (nI i)] : List Value).toArray) (fun H locs ls hP hD hSs hl0 => ?_) ?_
            · exact va_runV (As := [.int (nI i)]) X.1 ((t_hch (l := l) (D := D) (cy := cy) (aK := aK) (aO := aO) (aS := aS) (aV := aV) (aT := aT) (bS := bS) (bV := bV) (dA := dA) (qs := qs) (h9 := 0) (z9 := 0) (vs := vs) (ns := ns) (j9 := i) (fs := fs) (c9 := c9) (by omega) (by omega) hc3 hc2) H.size) (cwV 1 X.1.2.2.2.2 gL_types_J0_charAt_5068e rfl rfl rfl (by decide +kernel) ⟨Nat.le_of_ble_eq_true rfl, Nat.le_of_ble_eq_true rfl⟩) ⟨gPre_blind (ZI_ok _ _ _ _ _ _ _ _), va_recv (q0 := 0) X.2.1 hP rfl rfl, (gPre_of (ZI_ok _ _ _ _ _ _ _ _) X.2.1 X.2.2.1 X.2.2.2.1 hP hD hSs).2⟩ rfl rfl hl0.1 rfl (lv_room (Nat.le_of_ble_eq_true rfl)) dL_types_49 ⟨by show 0 + 0 ≤ 0; omega, by show 0 + 0 ≤ 0; omega⟩
            rintro r9 u9 ⟨rfl, rfl⟩
            refine g_weq (ws9 := lW cy A aK B X8 σ1 ρ ++ ([(qs, .inr (0, [.ref vs, .int 0, .int 0, .int 0])), (vs, .inl (cy 1, ns, .inl fs))] : va_W)) rfl ?_
            refine g_i2l X dL_types_52 ?_
            refine g_lor X dL_types_53 ?_
            refine g_topL (y := pkC ((T.drop k).take (i + 1 - k)) 0) (pk_step hki hc) ?_
            refine g_lstore X dL_types_54 (by decide) (lv' := [(4, .long (pkC ((T.drop k).take (i + 1 - k)) 0)), (6, .int (nI i)), (3, .int (nI k)), (2, .int r2), (1, .ref qs), (0, .ref (A 0))]) rfl ?_
            refine g_iinc X dL_types_56 1 rfl (v := nI (i + 1)) (nq_add i 1) (by decide) (lv' := [(6, .int (nI (i + 1))), (4, .long (pkC ((T.drop k).take (i + 1 - k)) 0)), (3, .int (nI k)), (2, .int r2), (1, .ref qs), (0, .ref (A 0))]) rfl ?_
            refine g_goto X (tgt := 23) dL_types_59 (by decide) ?_
            refine g_sub [0, 1, 2, 3, 4, 5] (lv' := [(6, .int (nI (i + 1))), (4, .long (pkC ((T.drop k).take (i + 1 - k)) 0)), (3, .int (nI k)), (2, .int r2), (1, .ref qs), (0, .ref (A 0))]) rfl ?_
            exact ih9 (i + 1) (by omega) (by omega) (by omega)
        refine g_sub [0, 1, 2, 3, 4, 5] (lv' := [(6, .int (nI k)), (4, .long (0 : Int64)), (3, .int (nI k)), (2, .int r2), (1, .ref qs), (0, .ref (A 0))]) rfl ?_
        have K := KI _ k rfl (Nat.le_refl _) (by omega)
        rw [Nat.sub_self, List.take_zero] at K
        exact K
  have K0 : gG p l e rmS_types s m args below meth c D (cyT cy) B9 7 (MQ below (va_Qi (fun r9 u9 => ∃ σ9 : St, r9 = 1 ∧ u9 = lW cy A aK B (X8 ++ [(qs, .inr (0, [.ref vs, .int 0, .int 0, .int 0])), (vs, .inl (cy 1, ns, .inl fs))]) σ9 ρ ∧ qIN a R σ9 ∧ TXc T σ9) (gAt D (cyT cy) (fun w9 : va_W => w9) B9) B9) args s 0 0 B9) (lW cy A aK B X8 σ ρ ++ [(qs, .inr (0, [.ref vs, .int 0, .int 0, .int 0])), (vs, .inl (cy 1, ns, .inl fs))]) 0 0 0 [(1, .ref qs), (0, .ref (A 0))] [] := by
    obtain ⟨v0, σ0, e0, q0, x0⟩ := E_clearText hq
    refine g_sub [1, 0] (lv' := [(0, .ref (A 0)), (1, .ref qs)]) rfl ?_
    refine g_aload_n X dL_types_0 rfl 0 rfl ?_
    refine g_weq (ws9 := lW cy A aK B (X8 ++ ([(qs, .inr (0, [.ref vs, .int 0, .int 0, .int 0])), (vs, .inl (cy 1, ns, .inl fs))] : va_W)) σ ρ) lW_app.symm ?_
    refine g_callVI (AD := A) (As := []) X (ZI_ok _ _ _ _ _ _ _ _) (mI_upI (m_X10_clearText e0)) (cwV 0 X.1.2.2.2.2 gL_types_X10_clearText rfl rfl rfl (by decide +kernel) ⟨Nat.le_of_ble_eq_true rfl, Nat.le_of_ble_eq_true rfl⟩) rfl cm0 (cE_0 cy A aK σ) rfl rfl (Nat.le_of_ble_eq_true rfl) ⟨by show 0 + 0 ≤ 0; omega, by show 0 + 0 ≤ 0; omega⟩ dL_types_1 ?_
    refine g_weq (ws9 := lW cy A aK B X8 σ0 ρ ++ ([(qs, .inr (0, [.ref vs, .int 0, .int 0, .int 0])), (vs, .inl (cy 1, ns, .inl fs))] : va_W)) (by exact lW_app) ?_
    refine g_istore_n X dL_types_4 rfl (by decide) (lv' := [(2, .int v0), (0, .ref (A 0)), (1, .ref qs)]) rfl ?_
    refine g_iconst X dL_types_5 (v := (0 : Int32)) (by decide) ?_
    refine g_istore_n X dL_types_6 rfl (by decide) (lv' := [(2, .int (0 : Int32)), (0, .ref (A 0)), (1, .ref qs)]) rfl ?_
    refine g_iconst X dL_types_7 (v := (0 : Int32)) (by decide) ?_
    refine g_istore_n X dL_types_8 rfl (by decide) (lv' := [(3, .int (0 : Int32)), (2, .int (0 : Int32)), (0, .ref (A 0)), (1, .ref qs)]) rfl ?_
    refine g_sub [0, 1, 3, 2] (lv' := [(3, .int (0 : Int32)), (2, .int (0 : Int32)), (1, .ref qs), (0, .ref (A 0))]) rfl ?_
    exact K9 ns 0 _ σ0 (by omega) (by omega) q0 x0 (Or.inl h0)
  refine g_weq (ws9 := lW cy A aK B X8 σ ρ ++ ([(qs, .inr (0, [.ref vs, .int 0, .int 0, .int 0])), (vs, .inl (cy 1, ns, .inl fs))] : va_W)) (by exact lW_app) ?_
  refine g_sub [1, 0] (lv' := [(1, .ref qs), (0, .ref (A 0))]) rfl ?_
  exact K0
end TR4
