/-! the law's lays -/
theorem rnT_app (q : RN) (u v : List Nat) : rnT q (u ++ v) = rnT q u ++ v := by
  unfold rnT spT lnT mdT ngT
  split <;> split <;> split <;> split <;> simp only [List.append_assoc, List.cons_append]
theorem rnA_snoc : ∀ (l : List RN) (q : RN), rnA (l ++ [q]) = rnA l ++ rnT q []
  | [], q => rfl
  | z :: l, q => by
    show rnT z (rnA (l ++ [q])) = rnT z (rnA l) ++ rnT q []
    rw [rnA_snoc l q, rnT_app]
theorem ok_snoc {l : List RN} {q : RN} (h : ∀ z, z ∈ l → okR z) (hq : okR q) : ∀ z, z ∈ l ++ [q] → okR z := fun z hz => by
  rcases List.mem_append.mp hz with h1 | h1
  · exact h z h1
  · rw [List.mem_singleton.mp h1]; exact hq
theorem lt_snoc {l : List RN} {q : RN} {n : Nat} {f : Nat → Int32} (h : lt2 (rnA l ++ rnT q []) n f) : lt2 (rnA (l ++ [q])) n f := by
  rw [rnA_snoc]; exact h
theorem dc_ch {n : Nat} (hn : n < 1000) : ∀ x, x ∈ dcL n → 1 ≤ x ∧ x < 128 := fun x hx => by
  have := (dc_all n hn).2.1 x hx
  omega
theorem wd_ch : ∀ i, i < 9 → ∀ x, x ∈ wd i → 1 ≤ x ∧ x < 128 := by decide
theorem rnT_ch {q : RN} (hq : okR q) {v : List Nat} (hv : ∀ x, x ∈ v → 1 ≤ x ∧ x < 128) : ∀ x, x ∈ rnT q v → 1 ≤ x ∧ x < 128 := by
  obtain ⟨h1, h2, h3, h4, h5, h6⟩ := hq
  have cc : ∀ {c : Nat} {u : List Nat}, 1 ≤ c ∧ c < 128 → (∀ x, x ∈ u → 1 ≤ x ∧ x < 128) → ∀ x, x ∈ c :: u → 1 ≤ x ∧ x < 128 := fun hc hu x hx => by
    rcases List.mem_cons.mp hx with rfl | hx
    · exact hc
    · exact hu x hx
  have ca : ∀ {u w : List Nat}, (∀ x, x ∈ u → 1 ≤ x ∧ x < 128) → (∀ x, x ∈ w → 1 ≤ x ∧ x < 128) → ∀ x, x ∈ u ++ w → 1 ≤ x ∧ x < 128 := fun hu hw x hx => (List.mem_append.mp hx).elim (hu x) (hw x)
  have hmd : ∀ x, x ∈ mdT q.2.2.2.2.2.2 v → 1 ≤ x ∧ x < 128 := by
    unfold mdT
    split
    · exact cc (by decide) hv
    · exact cc (by decide) (ca (wd_ch 8 (by decide)) (cc (by decide) (ca (dc_ch (by omega)) (cc (by decide) hv))))
  have hln : ∀ x, x ∈ lnT q.1 q.2.2.2.2.2.1 (mdT q.2.2.2.2.2.2 v) → 1 ≤ x ∧ x < 128 := by
    unfold lnT
    split
    · exact cc (by decide) (ca (dc_ch (by omega)) hmd)
    · exact hmd
  have hsp : ∀ x, x ∈ spT q.1 q.2.2.2.2.1 (lnT q.1 q.2.2.2.2.2.1 (mdT q.2.2.2.2.2.2 v)) → 1 ≤ x ∧ x < 128 := by
    unfold spT
    split
    · exact hln
    · exact cc (by decide) (ca (dc_ch (by omega)) hln)
  unfold rnT
  refine ca (wd_ch q.1 (by omega)) (cc (by decide) (ca (dc_ch (by omega)) (cc (by decide) ?_)))
  unfold ngT
  split
  · exact cc (by decide) (cc (by decide) (ca (dc_ch (by omega)) hsp))
  · exact ca (dc_ch (by omega)) hsp
theorem rnA_ch : ∀ {l : List RN}, (∀ q, q ∈ l → okR q) → ∀ x, x ∈ rnA l → 1 ≤ x ∧ x < 128
  | [], _ => fun x hx => nomatch hx
  | q :: l, h => rnT_ch (h q List.mem_cons_self) (rnA_ch fun z hz => h z (List.mem_cons_of_mem _ hz))
theorem rnA_pos {l : List RN} {n : Nat} {f : Nat → Int32} (h : lt2 (rnA l) n f) (hl : 1 ≤ l.length) : 0 < n := by
  have h1 := h.1
  cases l with
  | nil => exact absurd hl (by decide)
  | cons q l =>
    have : (rnA (q :: l)).length = (rnT q (rnA l)).length := rfl
    unfold rnT at this
    rw [List.length_append, List.length_cons] at this
    omega
theorem n3_ne {k : Nat} (hk : k < 2147483648) : ¬ nI k = (-3 : Int32) := by
  intro h
  have := congrArg Int32.toInt h
  rw [nq_toInt hk, show (-3 : Int32).toInt = -3 from by decide] at this
  omega
theorem wq_app {cy : Nat → ClassId} {A aK B : Nat → Nat} {X8 w u : va_W} {σ ρ : St} : lW cy A aK B (X8 ++ w) σ ρ ++ u = lW cy A aK B X8 σ ρ ++ (w ++ u) := by
  rw [lW_app, List.append_assoc]
section HC
variable {p : Program} {l : Launch} {e : Env} {R : Room} {s : State} {m : MethodId} {args : Array Value} {below : List Frame} {meth : Method} {c : Code} {D : va_G} {tys : List (ClassId × FieldType)} {A : Nat → Prop} {nL : Nat} {Q : State → Prop} {cc : ByteArray} {Ts : List Cond} {own : String} {ret : Option FieldType} {ZZ : (Nat → Prop) → State → Heap → Prop}
variable {k n pc : Nat} {lv : List (Nat × Value)} {st st0 : List Value} {AD : Nat → Nat} {E : St → Nat → va_E} {L : List Nat} {X9 : va_W} {σ σ' : St} {ws ws9 : va_W}
variable {y2 : MethodName} {ws2 : List Cond} {rm2 : Room} {bytes : ByteArray} {maxL2 index nA : Nat} {ret2 : Option FieldType} {C : String} {T : u_T} {N ci j : Nat} {fs : List Value} {As : List Value} {mcq msq : Nat} {k' n' : Nat}
theorem h_cI (X : gC ZZ p s m args meth c D tys A cc Ts own nL ret) (hzz : gZ ZZ) {post : Int32 → va_W → Prop} (hMm : cI ZZ D tys l y2 ws2 rm2 ws As post mcq msq) (cw : CallB R s args own index y2 bytes maxL2 ret2 ws2 rm2 mcq msq nA ∧ (Cond.static y2).before args s = true) (hst : st0 = As.reverse ++ st) (hn : As.length = nA) (hcat : (st.map fun v => v.category).sum ≤ 8) (hkn : k + mcq ≤ R.cells ∧ n + msq ≤ R.slots) (hdg : decode cc pc = .ok (.invokestatic index, 3)) (hk : k + mcq ≤ k') (hn' : n + msq ≤ n')
    (kk : ∀ (r1 : Int32) (u1 : va_W), post r1 u1 → gG p l e R s m args below meth c D tys A nL Q u1 k' n' (pc + 3) lv (.int r1 :: st)) : gG p l e R s m args below meth c D tys A nL Q ws k n pc lv st0 := by
  subst hst
  intro H locs ls hP hD hSs hl0
  have hF := (gPre_of (av := []) hzz X.2.1 X.2.2.1 X.2.2.2.1 hP hD hSs).1
  refine va_calli (va_runS X.1 (hMm H.size) cw ⟨gPre_blind hzz, (gPre_of hzz X.2.1 X.2.2.1 X.2.2.2.1 hP hD hSs).2⟩ rfl hn hl0.1 rfl (lv_room hcat) hdg hkn) hSs (fun q _ h => hF q h) hF (fun r1 u1 t H1 locs1 ht hvm hw hBb hz1 hk1 hS1 => ?_)
  obtain ⟨hP1, -, hD1⟩ := hBb
  rw [ht] at hP1
  exact W.widen hk hn' (kk r1 u1 hw H1 locs1 ls hP1 (hD1.weaken (fun k9 qz9 h9 _ => hF _ (hD1.2 k9 qz9 h9))) hS1 hl0)
theorem h_cQ (X : gC ZZ p s m args meth c D tys A cc Ts own nL ret) (hzz : gZ ZZ) {post : Option Nat → va_W → Prop} (hMm : cQ ZZ D tys l y2 ws2 rm2 ws As post mcq msq) (cw : CallB R s args own index y2 bytes maxL2 ret2 ws2 rm2 mcq msq nA ∧ (Cond.static y2).before args s = true) (hst : st0 = As.reverse ++ st) (hn : As.length = nA) (hcat : (st.map fun v => v.category).sum ≤ 8) (hkn : k + mcq ≤ R.cells ∧ n + msq ≤ R.slots) (hdg : decode cc pc = .ok (.invokestatic index, 3)) (hk : k + mcq ≤ k') (hn' : n + msq ≤ n')
    (kk : ∀ (r1 : Option Nat) (u1 : va_W), post r1 u1 → gG p l e R s m args below meth c D tys A nL Q u1 k' n' (pc + 3) lv (va_rf r1 :: st)) : gG p l e R s m args below meth c D tys A nL Q ws k n pc lv st0 := by
  subst hst
  intro H locs ls hP hD hSs hl0
  have hF := (gPre_of (av := []) hzz X.2.1 X.2.2.1 X.2.2.2.1 hP hD hSs).1
  refine va_callq (va_runS X.1 (hMm H.size) cw ⟨gPre_blind hzz, (gPre_of hzz X.2.1 X.2.2.1 X.2.2.2.1 hP hD hSs).2⟩ rfl hn hl0.1 rfl (lv_room hcat) hdg hkn) hSs (fun q _ h => hF q h) hF (fun r1 u1 t H1 locs1 ht hvm hw hBb hz1 hk1 hS1 => ?_)
  obtain ⟨hP1, -, hD1⟩ := hBb
  rw [ht] at hP1
  exact W.widen hk hn' (kk r1 u1 hw H1 locs1 ls hP1 (hD1.weaken (fun k9 qz9 h9 _ => hF _ (hD1.2 k9 qz9 h9))) hS1 hl0)
theorem h_cIT (X : gC ZZ p s m args meth c D tys A cc Ts own nL ret) (hzz : gZ ZZ) {post : Int32 → va_W → Prop} {hh : List (Nat × Nat × Nat × Nat)} (hMm : cI ZZ D tys l y2 ws2 rm2 ws As post mcq msq) (cw : vx_CSW R s args own index y2 bytes maxL2 ret2 hh ws2 rm2 mcq msq nA) (hst : st0 = As.reverse ++ st) (hn : As.length = nA) (hcat : (st.map fun v => v.category).sum ≤ 8) (hkn : k + mcq ≤ R.cells ∧ n + msq ≤ R.slots) (hdg : decode cc pc = .ok (.invokestatic index, 3)) (hk : k + mcq ≤ k') (hn' : n + msq ≤ n')
    (kk : ∀ (r1 : Int32) (u1 : va_W), post r1 u1 → gG p l e R s m args below meth c D tys A nL Q u1 k' n' (pc + 3) lv (.int r1 :: st)) : gG p l e R s m args below meth c D tys A nL Q ws k n pc lv st0 := by
  subst hst
  intro H locs ls hP hD hSs hl0
  have hF := (gPre_of (av := []) hzz X.2.1 X.2.2.1 X.2.2.2.1 hP hD hSs).1
  refine va_calli (vx_runSW X.1 (hMm H.size) cw ⟨gPre_blind hzz, (gPre_of hzz X.2.1 X.2.2.1 X.2.2.2.1 hP hD hSs).2⟩ rfl hn hl0.1 rfl (lv_room hcat) hdg hkn) hSs (fun q _ h => hF q h) hF (fun r1 u1 t H1 locs1 ht hvm hw hBb hz1 hk1 hS1 => ?_)
  obtain ⟨hP1, -, hD1⟩ := hBb
  rw [ht] at hP1
  exact W.widen hk hn' (kk r1 u1 hw H1 locs1 ls hP1 (hD1.weaken (fun k9 qz9 h9 _ => hF _ (hD1.2 k9 qz9 h9))) hS1 hl0)
end HC
section TR5
variable {l : Launch} {D : va_G} {cy : Nat → ClassId} {aK aO aS aV aT bS bV dA A B : Nat → Nat}
abbrev rmS_lays : Room := { frames := 13, cells := 149, slots := 23646, locals := 336 }
set_option maxHeartbeats 16000000 in
set_option maxRecDepth 100000 in
theorem t_layz {X8 : va_W} {σ ρ : St} {a : AS} {R : QR} {row : Nat} (hl : l.stackTraces = false) (hq : qIN a R σ) (hrow : row < 4) : cI (ZI aK aO aS aV aT bS bV dA) D (cyT cy) l yL_lays wzL_lays rmS_lays (lW cy A aK B X8 σ ρ) [.ref (A 0), .ref (B 0), .int (nI row)] (fun r9 u9 => ∃ (σ9 ρ9 : St) (a9 : AS) (R9 : QR), r9 = 1 ∧ u9 = lW cy A aK B X8 σ9 ρ9 ∧ qIN a9 R9 σ9 ∧ an a9 0 ≤ an a 0 + 800) 149 23646 := by
  refine cI_of (cc := cL_lays) (maxL := 6) (ret := (some .boolean)) (by decide) rfl (Nat.le_of_ble_eq_true rfl) (fun p e s m args below meth c B9 X hnm => ?_)
  have lk0 : ∀ w ∈ wsJ40, w ∈ wzL_lays := by decide +kernel
  have lk1 : Cond.initialized RJ4 ∈ wzL_lays := by decide +kernel
  have lk2 : Cond.methodLink RL 16 yJ4_init_da8c8 ∈ wzL_lays := by decide +kernel
  have lk3 : Cond.instanceMethod yJ4_init_da8c8 ∈ wzL_lays := by decide +kernel
  have KE : ∀ (ρ1 : St) (l9 : List RN) (qs vs ns : Nat) (fs : Nat → Int32) (hok : ∀ q, q ∈ l9 → okR q) (hfs : sb_Fit fs) (hlt : lt2 (rnA l9) ns fs), 1 ≤ l9.length → l9.length ≤ 4 → ns ≤ 128 → gG p l e rmS_lays s m args below meth c D (cyT cy) B9 6 (MQ below (va_Qi (fun r9 u9 => ∃ (σ9 ρ9 : St) (a9 : AS) (R9 : QR), r9 = 1 ∧ u9 = lW cy A aK B X8 σ9 ρ9 ∧ qIN a9 R9 σ9 ∧ an a9 0 ≤ an a 0 + 800) (gAt D (cyT cy) (fun w9 : va_W => w9) B9) B9) args s 149 23646 B9) (lW cy A aK B X8 σ ρ1 ++ [(qs, .inr (0, [.ref vs, .int 0, .int 0, .int 0])), (vs, .inl (cy 1, ns, .inl fs))]) 148 23640 44 [(4, .int (nI 0)), (3, .ref qs), (2, .int (nI row)), (1, .ref (B 0)), (0, .ref (A 0))] [] := by
    intro ρ1 l9 qs vs ns fs hok hfs hlt hl1 hl4 hns
    have c1 := E_count hq hrow
    have hTl := hlt.1
    refine g_aload_n X dL_lays_44 rfl 4 rfl ?_
    refine g_iload_n X dL_lays_45 rfl 2 rfl ?_
    refine g_weq (ws9 := lW cy A aK B (X8 ++ ([(qs, .inr (0, [.ref vs, .int 0, .int 0, .int 0])), (vs, .inl (cy 1, ns, .inl fs))] : va_W)) σ ρ1) lW_app.symm ?_
    refine g_xVI_ret (AD := A) (As := [.int (nI row)]) X (ZI_ok _ _ _ _ _ _ _ _) (xI_upI (m_X10_count hl c1)) (cwV 1 X.1.2.2.2.2 gZL_lays_X10_count rfl rfl rfl (by decide +kernel) ⟨Nat.le_of_ble_eq_true rfl, Nat.le_of_ble_eq_true rfl⟩) rfl cm0 (cE_0 cy A aK σ) rfl rfl (Nat.le_of_ble_eq_true rfl) ⟨by show 148 + 0 ≤ 149; omega, by show 23640 + 0 ≤ 23646; omega⟩ dL_lays_46 (k' := 148) (n' := 23640) (thrC_k _ _) (thrS_k _ _) ?_
    refine g_weq (ws9 := lW cy A aK B X8 σ ρ1 ++ ([(qs, .inr (0, [.ref vs, .int 0, .int 0, .int 0])), (vs, .inl (cy 1, ns, .inl fs))] : va_W)) (by exact lW_app) ?_
    refine g_istore X dL_lays_49 (by decide) (lv' := [(4, .int (nI (R row).length)), (3, .ref qs), (2, .int (nI row)), (1, .ref (B 0)), (0, .ref (A 0))]) rfl ?_
    refine g_aload_n X dL_lays_51 rfl 4 rfl ?_
    refine g_aload_n X dL_lays_52 rfl 1 rfl ?_
    refine g_weq (ws9 := lW cy A aK B (X8 ++ ([(qs, .inr (0, [.ref vs, .int 0, .int 0, .int 0])), (vs, .inl (cy 1, ns, .inl fs))] : va_W)) σ ρ1) lW_app.symm ?_
    refine h_cIT (As := [.ref (A 0), .ref qs]) X (ZI_ok _ _ _ _ _ _ _ _) (t_types (D := D) (cy := cy) (aK := aK) (aO := aO) (aS := aS) (aV := aV) (aT := aT) (bS := bS) (bV := bV) (dA := dA) (A := A) (B := B) (X8 := X8) (ρ := ρ1) hl hq hlt (rnA_ch hok) (by omega) (rnA_pos hlt hl1) (fun σ1 q1 x1 => E_fault q1 hok (by omega) x1)) (vx_cwSW 2 X.1.2.2.2.2 gZL_lays_L_types rfl rfl rfl (by decide +kernel) ⟨Nat.le_of_ble_eq_true rfl, Nat.le_of_ble_eq_true rfl⟩) rfl rfl (Nat.le_of_ble_eq_true rfl) ⟨by show 148 + 0 ≤ 149; omega, by show 23640 + 0 ≤ 23646; omega⟩ dL_lays_53 (k' := 148) (n' := 23640) (by omega) (by omega) ?_
    rintro r9 u9 ⟨σ2, rfl, rfl, q2, x2⟩
    refine g_weq (ws9 := lW cy A aK B X8 σ2 ρ1 ++ ([(qs, .inr (0, [.ref vs, .int 0, .int 0, .int 0])), (vs, .inl (cy 1, ns, .inl fs))] : va_W)) (by exact lW_app) ?_
    refine g_if_ne X (tgt := 61) dL_lays_56 (by decide) (fun _ => ?_) (fun h9 => absurd h9 (by decide))
    rcases E_lay q2 hrow hok (by omega) hl1 x2 with ⟨σ3, b1, q3⟩ | ⟨σ3, a3, L3, b1, b2, b3, q3, b4⟩
    · have b5 : f_L_done 0 (nI row) 0 0 σ2 = some (-3, σ3) := (dn_0 _ _ _ _).trans (by rw [b1]; exact ifS _ none)
      have c2 := E_count q3 hrow
      refine g_aload_n X dL_lays_61 rfl 4 rfl ?_
      refine g_iconst X dL_lays_62 (v := (0 : Int32)) (by decide) ?_
      refine g_iload_n X dL_lays_63 rfl 2 rfl ?_
      refine g_iconst X dL_lays_64 (v := (0 : Int32)) (by decide) ?_
      refine g_iconst X dL_lays_65 (v := (0 : Int32)) (by decide) ?_
      refine h_callIT (As := [.ref (A 0), .int (0 : Int32), .int (nI row), .int (0 : Int32), .int (0 : Int32)]) (Wf := lWf cy A aK B (X8 ++ ([(qs, .inr (0, [.ref vs, .int 0, .int 0, .int 0])), (vs, .inl (cy 1, ns, .inl fs))] : va_W))) (u := (σ2, ρ1)) (u' := (σ3, ρ1)) (ws9 := lW cy A aK B X8 σ3 ρ1 ++ ([(qs, .inr (0, [.ref vs, .int 0, .int 0, .int 0])), (vs, .inl (cy 1, ns, .inl fs))] : va_W)) X (ZI_ok _ _ _ _ _ _ _ _) (wI_up (m_L_done hl b5)) (vx_cwSW 5 X.1.2.2.2.2 gZL_lays_L_done rfl rfl rfl (by decide +kernel) ⟨Nat.le_of_ble_eq_true rfl, Nat.le_of_ble_eq_true rfl⟩) rfl rfl (Nat.le_of_ble_eq_true rfl) ⟨by show 148 + 1 ≤ 149; omega, by show 23640 + 6 ≤ 23646; omega⟩ dL_lays_66 lW_app lW_app (k' := 149) (n' := 23640 + 6) (by omega) (by omega) ?_
      refine g_istore X dL_lays_69 (by decide) (lv' := [(5, .int (-3)), (4, .int (nI (R row).length)), (3, .ref qs), (2, .int (nI row)), (1, .ref (B 0)), (0, .ref (A 0))]) rfl ?_
      refine g_iload X dL_lays_71 0 rfl ?_
      refine g_bipush X dL_lays_73 (v := (-3 : Int32)) (by decide) ?_
      refine g_icmp_ne X (tgt := 96) dL_lays_75 (by decide) (fun h9 => absurd (rfl) h9) (fun _ => ?_)
      refine g_aload_n X dL_lays_78 rfl 5 rfl ?_
      refine g_iload_n X dL_lays_79 rfl 3 rfl ?_
      refine g_weq (ws9 := lW cy A aK B (X8 ++ ([(qs, .inr (0, [.ref vs, .int 0, .int 0, .int 0])), (vs, .inl (cy 1, ns, .inl fs))] : va_W)) σ3 ρ1) lW_app.symm ?_
      refine g_xVI_ret (AD := A) (As := [.int (nI row)]) X (ZI_ok _ _ _ _ _ _ _ _) (xI_upI (m_X10_count hl c2)) (cwV 1 X.1.2.2.2.2 gZL_lays_X10_count rfl rfl rfl (by decide +kernel) ⟨Nat.le_of_ble_eq_true rfl, Nat.le_of_ble_eq_true rfl⟩) rfl cm0 (cE_0 cy A aK σ3) rfl rfl (Nat.le_of_ble_eq_true rfl) ⟨by show 149 + 0 ≤ 149; omega, by show 23640 + 6 + 0 ≤ 23646; omega⟩ dL_lays_80 (k' := 149) (n' := 23640 + 6) (thrC_k _ _) (thrS_k _ _) ?_
      refine g_weq (ws9 := lW cy A aK B X8 σ3 ρ1 ++ ([(qs, .inr (0, [.ref vs, .int 0, .int 0, .int 0])), (vs, .inl (cy 1, ns, .inl fs))] : va_W)) (by exact lW_app) ?_
      refine g_iload X dL_lays_83 1 rfl ?_
      refine g_icmp_ne X (tgt := 92) dL_lays_85 (by decide) (fun h9 => absurd (rfl) h9) (fun _ => ?_)
      refine g_iconst X dL_lays_88 (v := (1 : Int32)) (by decide) ?_
      refine g_goto X (tgt := 119) dL_lays_89 (by decide) ?_
      refine g_subl (ws9 := lW cy A aK B X8 σ3 ρ1 ++ []) (List.Sublist.append_left (.cons _ (.cons _ .slnil)) _) ?_
      refine g_wid (k' := 149) (n' := 23646) (by omega) (by omega) ?_
      exact g_zret (Wf := fun w9 : va_W => w9) (u := lW cy A aK B X8 σ3 ρ1 ++ []) X (rfl) (⟨σ3, ρ1, a, R, rfl, (List.append_nil _), q3, by omega⟩) dL_lays_119
    · have b5 : f_L_done 0 (nI row) 0 0 σ2 = some (nI L3.length, σ3) := (dn_0 _ _ _ _).trans (by rw [b3]; rfl)
      have c2 := E_count q3 hrow
      rw [qRs_e _ _ rfl, List.length_append] at c2
      have hn := hq.len hrow
      refine g_aload_n X dL_lays_61 rfl 4 rfl ?_
      refine g_iconst X dL_lays_62 (v := (0 : Int32)) (by decide) ?_
      refine g_iload_n X dL_lays_63 rfl 2 rfl ?_
      refine g_iconst X dL_lays_64 (v := (0 : Int32)) (by decide) ?_
      refine g_iconst X dL_lays_65 (v := (0 : Int32)) (by decide) ?_
      refine h_callIT (As := [.ref (A 0), .int (0 : Int32), .int (nI row), .int (0 : Int32), .int (0 : Int32)]) (Wf := lWf cy A aK B (X8 ++ ([(qs, .inr (0, [.ref vs, .int 0, .int 0, .int 0])), (vs, .inl (cy 1, ns, .inl fs))] : va_W))) (u := (σ2, ρ1)) (u' := (σ3, ρ1)) (ws9 := lW cy A aK B X8 σ3 ρ1 ++ ([(qs, .inr (0, [.ref vs, .int 0, .int 0, .int 0])), (vs, .inl (cy 1, ns, .inl fs))] : va_W)) X (ZI_ok _ _ _ _ _ _ _ _) (wI_up (m_L_done hl b5)) (vx_cwSW 5 X.1.2.2.2.2 gZL_lays_L_done rfl rfl rfl (by decide +kernel) ⟨Nat.le_of_ble_eq_true rfl, Nat.le_of_ble_eq_true rfl⟩) rfl rfl (Nat.le_of_ble_eq_true rfl) ⟨by show 148 + 1 ≤ 149; omega, by show 23640 + 6 ≤ 23646; omega⟩ dL_lays_66 lW_app lW_app (k' := 149) (n' := 23640 + 6) (by omega) (by omega) ?_
      refine g_istore X dL_lays_69 (by decide) (lv' := [(5, .int (nI L3.length)), (4, .int (nI (R row).length)), (3, .ref qs), (2, .int (nI row)), (1, .ref (B 0)), (0, .ref (A 0))]) rfl ?_
      refine g_iload X dL_lays_71 0 rfl ?_
      refine g_bipush X dL_lays_73 (v := (-3 : Int32)) (by decide) ?_
      refine g_icmp_ne X (tgt := 96) dL_lays_75 (by decide) (fun _ => ?_) (fun h9 => absurd h9 (n3_ne (by omega)))
      refine g_iload X dL_lays_96 0 rfl ?_
      refine g_if_le X (tgt := 118) dL_lays_98 (by decide) (fun h9 => absurd h9 (by rw [nz0, nq_le (by omega) (by omega)]; omega)) (fun _ => ?_)
      refine g_aload_n X dL_lays_101 rfl 5 rfl ?_
      refine g_iload_n X dL_lays_102 rfl 3 rfl ?_
      refine g_weq (ws9 := lW cy A aK B (X8 ++ ([(qs, .inr (0, [.ref vs, .int 0, .int 0, .int 0])), (vs, .inl (cy 1, ns, .inl fs))] : va_W)) σ3 ρ1) lW_app.symm ?_
      refine g_xVI_ret (AD := A) (As := [.int (nI row)]) X (ZI_ok _ _ _ _ _ _ _ _) (xI_upI (m_X10_count hl c2)) (cwV 1 X.1.2.2.2.2 gZL_lays_X10_count rfl rfl rfl (by decide +kernel) ⟨Nat.le_of_ble_eq_true rfl, Nat.le_of_ble_eq_true rfl⟩) rfl cm0 (cE_0 cy A aK σ3) rfl rfl (Nat.le_of_ble_eq_true rfl) ⟨by show 149 + 0 ≤ 149; omega, by show 23640 + 6 + 0 ≤ 23646; omega⟩ dL_lays_103 (k' := 149) (n' := 23640 + 6) (thrC_k _ _) (thrS_k _ _) ?_
      refine g_weq (ws9 := lW cy A aK B X8 σ3 ρ1 ++ ([(qs, .inr (0, [.ref vs, .int 0, .int 0, .int 0])), (vs, .inl (cy 1, ns, .inl fs))] : va_W)) (by exact lW_app) ?_
      refine g_iload X dL_lays_106 1 rfl ?_
      refine g_iload X dL_lays_108 0 rfl ?_
      refine g_iadd X dL_lays_110 ?_
      refine g_top (y := nI ((R row).length + L3.length)) (nq_add _ _) ?_
      refine g_icmp_ne X (tgt := 118) dL_lays_111 (by decide) (fun h9 => absurd (rfl) h9) (fun _ => ?_)
      refine g_iconst X dL_lays_114 (v := (1 : Int32)) (by decide) ?_
      refine g_goto X (tgt := 119) dL_lays_115 (by decide) ?_
      refine g_subl (ws9 := lW cy A aK B X8 σ3 ρ1 ++ []) (List.Sublist.append_left (.cons _ (.cons _ .slnil)) _) ?_
      refine g_wid (k' := 149) (n' := 23646) (by omega) (by omega) ?_
      exact g_zret (Wf := fun w9 : va_W => w9) (u := lW cy A aK B X8 σ3 ρ1 ++ []) X (rfl) (⟨σ3, ρ1, a3, _, rfl, (List.append_nil _), q3, by omega⟩) dL_lays_119
  have KJ0 : ∀ (ρ1 : St) (l9 : List RN) (qs vs ns : Nat) (fs : Nat → Int32) (hok : ∀ q, q ∈ l9 → okR q) (hfs : sb_Fit fs) (hlt : lt2 (rnA l9) ns fs), 1 ≤ l9.length → l9.length ≤ 4 → ns ≤ 128 → gG p l e rmS_lays s m args below meth c D (cyT cy) B9 6 (MQ below (va_Qi (fun r9 u9 => ∃ (σ9 ρ9 : St) (a9 : AS) (R9 : QR), r9 = 1 ∧ u9 = lW cy A aK B X8 σ9 ρ9 ∧ qIN a9 R9 σ9 ∧ an a9 0 ≤ an a 0 + 800) (gAt D (cyT cy) (fun w9 : va_W => w9) B9) B9) args s 149 23646 B9) (lW cy A aK B X8 σ ρ1 ++ [(qs, .inr (0, [.ref vs, .int 0, .int 0, .int 0])), (vs, .inl (cy 1, ns, .inl fs))]) 148 23640 11 [(4, .int (nI 0)), (3, .ref qs), (2, .int (nI row)), (1, .ref (B 0)), (0, .ref (A 0))] [] := by
    intro ρ1 l9 qs vs ns fs hok hfs hlt hl1 hl4 hns
    refine g_iload X dL_lays_11 0 rfl ?_
    refine g_if_le X (tgt := 44) dL_lays_13 (by decide) (fun _ => ?_) (fun h9 => absurd (by decide) h9)
    exact KE ρ1 l9 qs vs ns fs hok hfs hlt hl1 hl4 hns
  have KJ1 : ∀ (ρ1 : St) (l9 : List RN) (qs vs ns : Nat) (fs : Nat → Int32) (hok : ∀ q, q ∈ l9 → okR q) (hfs : sb_Fit fs) (hlt : lt2 (rnA l9) ns fs), 1 ≤ l9.length → l9.length ≤ 3 → ns ≤ 96 → gG p l e rmS_lays s m args below meth c D (cyT cy) B9 6 (MQ below (va_Qi (fun r9 u9 => ∃ (σ9 ρ9 : St) (a9 : AS) (R9 : QR), r9 = 1 ∧ u9 = lW cy A aK B X8 σ9 ρ9 ∧ qIN a9 R9 σ9 ∧ an a9 0 ≤ an a 0 + 800) (gAt D (cyT cy) (fun w9 : va_W => w9) B9) B9) args s 149 23646 B9) (lW cy A aK B X8 σ ρ1 ++ [(qs, .inr (0, [.ref vs, .int 0, .int 0, .int 0])), (vs, .inl (cy 1, ns, .inl fs))]) 111 17730 11 [(4, .int (nI 1)), (3, .ref qs), (2, .int (nI row)), (1, .ref (B 0)), (0, .ref (A 0))] [] := by
    intro ρ1 l9 qs vs ns fs hok hfs hlt hl1 hl4 hns
    have t1 : tL 1 = 0 := rfl
    refine g_iload X dL_lays_11 0 rfl ?_
    refine g_if_le X (tgt := 44) dL_lays_13 (by decide) (fun h9 => absurd h9 (by rw [nz0, nq_le (by omega) (by omega)]; omega)) (fun _ => ?_)
    refine g_new X (fs := [.null, .int 0, .int 0, .int 0]) lk0 tyJ4 tyJ4_ok (by decide +kernel) (by decide +kernel) (by decide +kernel) (ci := 1) rfl (fun j hj => by match j, hj with | 0, _ => rfl | 1, _ => rfl | 2, _ => rfl | 3, _ => rfl) (by show 111 + 1 ≤ 149; omega) (by show 17730 + 4 ≤ 23646; omega) dL_lays_16 (fun q_1 => ?_)
    refine g_weq (ws9 := lW cy A aK B X8 σ ρ1 ++ ([(qs, .inr (0, [.ref vs, .int 0, .int 0, .int 0])), (vs, .inl (cy 1, ns, .inl fs)), (q_1, .inr (1, [.null, .int 0, .int 0, .int 0]))] : va_W)) (List.append_assoc _ _ _) ?_
    refine g_dup X dL_lays_19 rfl ?_
    refine w_afterV (W1 := lW cy A aK B X8 σ ρ1) (w := [(qs, .inr (0, [.ref vs, .int 0, .int 0, .int 0])), (vs, .inl (cy 1, ns, .inl fs)), (q_1, .inr (1, [.null, .int 0, .int 0, .int 0]))]) (wc := [(q_1, .inr (1, [.null, .int 0, .int 0, .int 0]))]) (wr := [(qs, .inr (0, [.ref vs, .int 0, .int 0, .int 0])), (vs, .inl (cy 1, ns, .inl fs))]) X (ZI_ok _ _ _ _ _ _ _ _) [2] [0, 1] rfl rfl rfl rfl (by decide) (hM := (t_binit (l := l) (D := D) (cy := cy) (aK := aK) (aO := aO) (aS := aS) (aV := aV) (aT := aT) (bS := bS) (bV := bV) (dA := dA) (q := q_1))) (st := [.ref q_1]) (mcq := 1) (msq := 16) (a9 := ([.ref q_1] : List Value).toArray) (fun H locs ls hP hD hSs hl0 => ?_) ?_
    · exact va_runI (As := []) X.1 ((t_binit (l := l) (D := D) (cy := cy) (aK := aK) (aO := aO) (aS := aS) (aV := aV) (aT := aT) (bS := bS) (bV := bV) (dA := dA) (q := q_1)) H.size) (cwI 0 X.1.2.2.2.2 gZL_lays_J4_init_da8c8 rfl rfl rfl (X.1.2.2.2.2 _ lk1) (X.1.2.2.2.2 _ lk2) (X.1.2.2.2.2 _ lk3) rfl (by decide +kernel) ⟨Nat.le_of_ble_eq_true rfl, Nat.le_of_ble_eq_true rfl⟩) ⟨gPre_blind (ZI_ok _ _ _ _ _ _ _ _), (gPre_of (ZI_ok _ _ _ _ _ _ _ _) X.2.1 X.2.2.1 X.2.2.2.1 hP hD hSs).2⟩ rfl rfl hl0.1 rfl (lv_room (Nat.le_of_ble_eq_true rfl)) dL_lays_20 ⟨by show 112 + 1 ≤ 149; omega, by show 17730 + 4 + 16 ≤ 23646; omega⟩
    rintro u9 ⟨v9, rfl⟩
    refine g_weq (ws9 := lW cy A aK B X8 σ ρ1 ++ ([(qs, .inr (0, [.ref vs, .int 0, .int 0, .int 0])), (vs, .inl (cy 1, ns, .inl fs)), (q_1, .inr (1, [.ref v9, .int 0, .int 0, .int (nI 0)])), (v9, .inl (cy 1, 16, .inl (fun _ => (0 : Int32))))] : va_W)) rfl ?_
    refine g_aload_n X dL_lays_23 rfl 1 rfl ?_
    refine w_afterQ (W1 := lW cy A aK B X8 σ ρ1) (w := [(qs, .inr (0, [.ref vs, .int 0, .int 0, .int 0])), (vs, .inl (cy 1, ns, .inl fs)), (q_1, .inr (1, [.ref v9, .int 0, .int 0, .int (nI 0)])), (v9, .inl (cy 1, 16, .inl (fun _ => (0 : Int32))))]) (wc := [(q_1, .inr (1, [.ref v9, .int 0, .int 0, .int (nI 0)])), (v9, .inl (cy 1, 16, .inl (fun _ => (0 : Int32)))), (qs, .inr (0, [.ref vs, .int 0, .int 0, .int 0])), (vs, .inl (cy 1, ns, .inl fs))]) (wr := []) X (ZI_ok _ _ _ _ _ _ _ _) [2, 3, 0, 1] [] rfl rfl rfl rfl (by decide) (hM := (t_bapp (l := l) (D := D) (cy := cy) (aK := aK) (aO := aO) (aS := aS) (aV := aV) (aT := aT) (bS := bS) (bV := bV) (dA := dA) (q := q_1) (v := v9) (cap := 16) (n9 := 0) (ml := 0) (f := (fun _ => (0 : Int32))) (qs := qs) (vs := vs) (ns := ns) (fs := fs) (h9 := 0) (z9 := 0) hfs (by decide) (by decide) (by omega) sb_fit0)) (st := []) (mcq := 1) (msq := 262) (a9 := ([.ref q_1, .ref qs] : List Value).toArray) (fun H locs ls hP hD hSs hl0 => ?_) ?_
    · exact va_runV (As := [.ref qs]) X.1 ((t_bapp (l := l) (D := D) (cy := cy) (aK := aK) (aO := aO) (aS := aS) (aV := aV) (aT := aT) (bS := bS) (bV := bV) (dA := dA) (q := q_1) (v := v9) (cap := 16) (n9 := 0) (ml := 0) (f := (fun _ => (0 : Int32))) (qs := qs) (vs := vs) (ns := ns) (fs := fs) (h9 := 0) (z9 := 0) hfs (by decide) (by decide) (by omega) sb_fit0) H.size) (cwV 1 X.1.2.2.2.2 gZL_lays_J4_append_15ec4 rfl rfl rfl (by decide +kernel) ⟨Nat.le_of_ble_eq_true rfl, Nat.le_of_ble_eq_true rfl⟩) ⟨gPre_blind (ZI_ok _ _ _ _ _ _ _ _), va_recv (q0 := 0) X.2.1 hP rfl rfl, (gPre_of (ZI_ok _ _ _ _ _ _ _ _) X.2.1 X.2.2.1 X.2.2.2.1 hP hD hSs).2⟩ rfl rfl hl0.1 rfl (lv_room (Nat.le_of_ble_eq_true rfl)) dL_lays_24 ⟨by show 113 + 1 ≤ 149; omega, by show 17730 + 4 + 16 + 262 ≤ 23646; omega⟩
    rintro r9 u9 ⟨rfl, v10, c10, f10, rfl, hc10, hn10, hf10, lo10, hi10⟩
    have hl10 := lt_app (lt2_0 _) hlt lo10 hi10
    refine g_weq (ws9 := lW cy A aK B X8 σ ρ1 ++ ([(q_1, .inr (1, [.ref v10, .int 0, .int 0, .int (nI (0 + ns))])), (v10, .inl (cy 1, c10, .inl f10)), (qs, .inr (0, [.ref vs, .int 0, .int 0, .int 0])), (vs, .inl (cy 1, ns, .inl fs))] : va_W)) rfl ?_
    refine g_aload_n X dL_lays_27 rfl 3 rfl ?_
    refine g_weq (ws9 := lW cy A aK B (X8 ++ ([(q_1, .inr (1, [.ref v10, .int 0, .int 0, .int (nI (0 + ns))])), (v10, .inl (cy 1, c10, .inl f10)), (qs, .inr (0, [.ref vs, .int 0, .int 0, .int 0])), (vs, .inl (cy 1, ns, .inl fs))] : va_W)) σ ρ1) lW_app.symm ?_
    refine h_cQ (As := [.ref (B 0)]) X (ZI_ok _ _ _ _ _ _ _ _) (t_run (l := l) (D := D) (cy := cy) (aK := aK) (aO := aO) (aS := aS) (aV := aV) (aT := aT) (bS := bS) (bV := bV) (dA := dA) (A := A) (B := B) (X8 := X8 ++ ([(q_1, .inr (1, [.ref v10, .int 0, .int 0, .int (nI (0 + ns))])), (v10, .inl (cy 1, c10, .inl f10)), (qs, .inr (0, [.ref vs, .int 0, .int 0, .int 0])), (vs, .inl (cy 1, ns, .inl fs))] : va_W)) (σ := σ) (ρ0 := ρ1)) (va_cwS 1 X.1.2.2.2.2 gZL_lays_L_run rfl rfl rfl (by decide +kernel) ⟨Nat.le_of_ble_eq_true rfl, Nat.le_of_ble_eq_true rfl⟩) rfl rfl (Nat.le_of_ble_eq_true rfl) ⟨by show 114 + 31 ≤ 149; omega, by show 17730 + 4 + 16 + 262 + 5100 ≤ 23646; omega⟩ dL_lays_28 (k' := 145) (n' := 17730 + 4 + 16 + 262 + 5100) (by have e1 : rmS_run.cells = 31 := rfl; omega) (by have e2 : rmS_run.slots = 5100 := rfl; omega) ?_
    rintro r9 u9 ⟨ρ2, z9, qr, vr, nr, fr, rfl, rfl, hr2, hz9, hfr, hlr, hnr⟩
    refine g_weq (ws9 := lW cy A aK B X8 σ ρ2 ++ ([(q_1, .inr (1, [.ref v10, .int 0, .int 0, .int (nI (0 + ns))])), (v10, .inl (cy 1, c10, .inl f10)), (qs, .inr (0, [.ref vs, .int 0, .int 0, .int 0])), (vs, .inl (cy 1, ns, .inl fs)), (qr, .inr (0, [.ref vr, .int 0, .int 0, .int 0])), (vr, .inl (cy 1, nr, .inl fr))] : va_W)) (by exact wq_app) ?_
    refine w_afterQ (W1 := lW cy A aK B X8 σ ρ2) (w := [(q_1, .inr (1, [.ref v10, .int 0, .int 0, .int (nI (0 + ns))])), (v10, .inl (cy 1, c10, .inl f10)), (qs, .inr (0, [.ref vs, .int 0, .int 0, .int 0])), (vs, .inl (cy 1, ns, .inl fs)), (qr, .inr (0, [.ref vr, .int 0, .int 0, .int 0])), (vr, .inl (cy 1, nr, .inl fr))]) (wc := [(q_1, .inr (1, [.ref v10, .int 0, .int 0, .int (nI (0 + ns))])), (v10, .inl (cy 1, c10, .inl f10)), (qr, .inr (0, [.ref vr, .int 0, .int 0, .int 0])), (vr, .inl (cy 1, nr, .inl fr))]) (wr := [(qs, .inr (0, [.ref vs, .int 0, .int 0, .int 0])), (vs, .inl (cy 1, ns, .inl fs))]) X (ZI_ok _ _ _ _ _ _ _ _) [0, 1, 4, 5] [2, 3] rfl rfl rfl rfl (by decide) (hM := (t_bapp (l := l) (D := D) (cy := cy) (aK := aK) (aO := aO) (aS := aS) (aV := aV) (aT := aT) (bS := bS) (bV := bV) (dA := dA) (q := q_1) (v := v10) (cap := c10) (n9 := (0 + ns)) (ml := 0) (f := f10) (qs := qr) (vs := vr) (ns := nr) (fs := fr) (h9 := 0) (z9 := 0) hfr hc10 hn10 (by omega) hf10)) (st := []) (mcq := 1) (msq := 262) (a9 := ([.ref q_1, .ref qr] : List Value).toArray) (fun H locs ls hP hD hSs hl0 => ?_) ?_
    · exact va_runV (As := [.ref qr]) X.1 ((t_bapp (l := l) (D := D) (cy := cy) (aK := aK) (aO := aO) (aS := aS) (aV := aV) (aT := aT) (bS := bS) (bV := bV) (dA := dA) (q := q_1) (v := v10) (cap := c10) (n9 := (0 + ns)) (ml := 0) (f := f10) (qs := qr) (vs := vr) (ns := nr) (fs := fr) (h9 := 0) (z9 := 0) hfr hc10 hn10 (by omega) hf10) H.size) (cwV 1 X.1.2.2.2.2 gZL_lays_J4_append_15ec4 rfl rfl rfl (by decide +kernel) ⟨Nat.le_of_ble_eq_true rfl, Nat.le_of_ble_eq_true rfl⟩) ⟨gPre_blind (ZI_ok _ _ _ _ _ _ _ _), va_recv (q0 := 0) X.2.1 hP rfl rfl, (gPre_of (ZI_ok _ _ _ _ _ _ _ _) X.2.1 X.2.2.1 X.2.2.2.1 hP hD hSs).2⟩ rfl rfl hl0.1 rfl (lv_room (Nat.le_of_ble_eq_true rfl)) dL_lays_31 ⟨by show 145 + 1 ≤ 149; omega, by show 17730 + 4 + 16 + 262 + 5100 + 262 ≤ 23646; omega⟩
    rintro r9 u9 ⟨rfl, v11, c11, f11, rfl, hc11, hn11, hf11, lo11, hi11⟩
    have hl11 := lt_app hl10 hlr lo11 hi11
    refine g_weq (ws9 := lW cy A aK B X8 σ ρ2 ++ ([(qs, .inr (0, [.ref vs, .int 0, .int 0, .int 0])), (vs, .inl (cy 1, ns, .inl fs)), (q_1, .inr (1, [.ref v11, .int 0, .int 0, .int (nI (0 + ns + nr))])), (v11, .inl (cy 1, c11, .inl f11)), (qr, .inr (0, [.ref vr, .int 0, .int 0, .int 0])), (vr, .inl (cy 1, nr, .inl fr))] : va_W)) rfl ?_
    refine w_afterQ (W1 := lW cy A aK B X8 σ ρ2) (w := [(qs, .inr (0, [.ref vs, .int 0, .int 0, .int 0])), (vs, .inl (cy 1, ns, .inl fs)), (q_1, .inr (1, [.ref v11, .int 0, .int 0, .int (nI (0 + ns + nr))])), (v11, .inl (cy 1, c11, .inl f11)), (qr, .inr (0, [.ref vr, .int 0, .int 0, .int 0])), (vr, .inl (cy 1, nr, .inl fr))]) (wc := [(q_1, .inr (1, [.ref v11, .int 0, .int 0, .int (nI (0 + ns + nr))])), (v11, .inl (cy 1, c11, .inl f11))]) (wr := [(qs, .inr (0, [.ref vs, .int 0, .int 0, .int 0])), (vs, .inl (cy 1, ns, .inl fs)), (qr, .inr (0, [.ref vr, .int 0, .int 0, .int 0])), (vr, .inl (cy 1, nr, .inl fr))]) X (ZI_ok _ _ _ _ _ _ _ _) [2, 3] [0, 1, 4, 5] rfl rfl rfl rfl (by decide) (hM := (t_toS (l := l) (D := D) (cy := cy) (aK := aK) (aO := aO) (aS := aS) (aV := aV) (aT := aT) (bS := bS) (bV := bV) (dA := dA) (q := q_1) (v := v11) (cap := c11) (n9 := (0 + ns + nr)) (ml := 0) (f := f11) hn11 hc11 hf11)) (st := []) (mcq := 2) (msq := 266) (a9 := ([.ref q_1] : List Value).toArray) (fun H locs ls hP hD hSs hl0 => ?_) ?_
    · exact va_runV (As := []) X.1 ((t_toS (l := l) (D := D) (cy := cy) (aK := aK) (aO := aO) (aS := aS) (aV := aV) (aT := aT) (bS := bS) (bV := bV) (dA := dA) (q := q_1) (v := v11) (cap := c11) (n9 := (0 + ns + nr)) (ml := 0) (f := f11) hn11 hc11 hf11) H.size) (cwV 0 X.1.2.2.2.2 gZL_lays_J4_toString_0e30d rfl rfl rfl (by decide +kernel) ⟨Nat.le_of_ble_eq_true rfl, Nat.le_of_ble_eq_true rfl⟩) ⟨gPre_blind (ZI_ok _ _ _ _ _ _ _ _), va_recv (q0 := 0) X.2.1 hP rfl rfl, (gPre_of (ZI_ok _ _ _ _ _ _ _ _) X.2.1 X.2.2.1 X.2.2.2.1 hP hD hSs).2⟩ rfl rfl hl0.1 rfl (lv_room (Nat.le_of_ble_eq_true rfl)) dL_lays_34 ⟨by show 146 + 2 ≤ 149; omega, by show 17730 + 4 + 16 + 262 + 5100 + 262 + 266 ≤ 23646; omega⟩
    rintro r9 u9 ⟨q_s12, vs12, fs12, rfl, rfl, hfs12, ls12⟩
    have hls12 := lt_eq hl11 ls12
    refine g_weq (ws9 := lW cy A aK B X8 σ ρ2 ++ ([(qs, .inr (0, [.ref vs, .int 0, .int 0, .int 0])), (vs, .inl (cy 1, ns, .inl fs)), (qr, .inr (0, [.ref vr, .int 0, .int 0, .int 0])), (vr, .inl (cy 1, nr, .inl fr)), (q_s12, .inr (0, [.ref vs12, .int 0, .int 0, .int 0])), (vs12, .inl (cy 1, (0 + ns + nr), .inl fs12))] : va_W)) rfl ?_
    refine g_astore_n X dL_lays_37 rfl (by decide) (lv' := [(3, .ref q_s12), (4, .int (nI 1)), (2, .int (nI row)), (1, .ref (B 0)), (0, .ref (A 0))]) rfl ?_
    refine g_iinc X dL_lays_38 1 rfl (v := nI (0)) (by decide) (by decide) (lv' := [(4, .int (nI (0))), (3, .ref q_s12), (2, .int (nI row)), (1, .ref (B 0)), (0, .ref (A 0))]) rfl ?_
    refine g_goto X (tgt := 11) dL_lays_41 (by decide) ?_
    refine g_subl (ws9 := lW cy A aK B X8 σ ρ2 ++ ([(q_s12, .inr (0, [.ref vs12, .int 0, .int 0, .int 0])), (vs12, .inl (cy 1, (0 + ns + nr), .inl fs12))] : va_W)) (List.Sublist.append_left (.cons _ (.cons _ (.cons _ (.cons _ (.cons₂ _ (.cons₂ _ .slnil)))))) _) ?_
    refine g_sub [0, 1, 2, 3, 4] (lv' := [(4, .int (nI (0))), (3, .ref q_s12), (2, .int (nI row)), (1, .ref (B 0)), (0, .ref (A 0))]) rfl ?_
    refine g_wid (k' := 148) (n' := 23640) (by omega) (by omega) ?_
    exact KJ0 ρ2 (l9 ++ [z9]) q_s12 vs12 (0 + ns + nr) fs12 (ok_snoc hok hz9) hfs12 (lt_snoc (by rw [← List.nil_append (rnA l9)]; exact hls12)) (by rw [List.length_append, List.length_singleton]; omega) (by rw [List.length_append, List.length_singleton]; omega) (by omega)
  have KJ2 : ∀ (ρ1 : St) (l9 : List RN) (qs vs ns : Nat) (fs : Nat → Int32) (hok : ∀ q, q ∈ l9 → okR q) (hfs : sb_Fit fs) (hlt : lt2 (rnA l9) ns fs), 1 ≤ l9.length → l9.length ≤ 2 → ns ≤ 64 → gG p l e rmS_lays s m args below meth c D (cyT cy) B9 6 (MQ below (va_Qi (fun r9 u9 => ∃ (σ9 ρ9 : St) (a9 : AS) (R9 : QR), r9 = 1 ∧ u9 = lW cy A aK B X8 σ9 ρ9 ∧ qIN a9 R9 σ9 ∧ an a9 0 ≤ an a 0 + 800) (gAt D (cyT cy) (fun w9 : va_W => w9) B9) B9) args s 149 23646 B9) (lW cy A aK B X8 σ ρ1 ++ [(qs, .inr (0, [.ref vs, .int 0, .int 0, .int 0])), (vs, .inl (cy 1, ns, .inl fs))]) 74 11820 11 [(4, .int (nI 2)), (3, .ref qs), (2, .int (nI row)), (1, .ref (B 0)), (0, .ref (A 0))] [] := by
    intro ρ1 l9 qs vs ns fs hok hfs hlt hl1 hl4 hns
    have t1 : tL 1 = 0 := rfl
    refine g_iload X dL_lays_11 0 rfl ?_
    refine g_if_le X (tgt := 44) dL_lays_13 (by decide) (fun h9 => absurd h9 (by rw [nz0, nq_le (by omega) (by omega)]; omega)) (fun _ => ?_)
    refine g_new X (fs := [.null, .int 0, .int 0, .int 0]) lk0 tyJ4 tyJ4_ok (by decide +kernel) (by decide +kernel) (by decide +kernel) (ci := 1) rfl (fun j hj => by match j, hj with | 0, _ => rfl | 1, _ => rfl | 2, _ => rfl | 3, _ => rfl) (by show 74 + 1 ≤ 149; omega) (by show 11820 + 4 ≤ 23646; omega) dL_lays_16 (fun q_2 => ?_)
    refine g_weq (ws9 := lW cy A aK B X8 σ ρ1 ++ ([(qs, .inr (0, [.ref vs, .int 0, .int 0, .int 0])), (vs, .inl (cy 1, ns, .inl fs)), (q_2, .inr (1, [.null, .int 0, .int 0, .int 0]))] : va_W)) (List.append_assoc _ _ _) ?_
    refine g_dup X dL_lays_19 rfl ?_
    refine w_afterV (W1 := lW cy A aK B X8 σ ρ1) (w := [(qs, .inr (0, [.ref vs, .int 0, .int 0, .int 0])), (vs, .inl (cy 1, ns, .inl fs)), (q_2, .inr (1, [.null, .int 0, .int 0, .int 0]))]) (wc := [(q_2, .inr (1, [.null, .int 0, .int 0, .int 0]))]) (wr := [(qs, .inr (0, [.ref vs, .int 0, .int 0, .int 0])), (vs, .inl (cy 1, ns, .inl fs))]) X (ZI_ok _ _ _ _ _ _ _ _) [2] [0, 1] rfl rfl rfl rfl (by decide) (hM := (t_binit (l := l) (D := D) (cy := cy) (aK := aK) (aO := aO) (aS := aS) (aV := aV) (aT := aT) (bS := bS) (bV := bV) (dA := dA) (q := q_2))) (st := [.ref q_2]) (mcq := 1) (msq := 16) (a9 := ([.ref q_2] : List Value).toArray) (fun H locs ls hP hD hSs hl0 => ?_) ?_
    · exact va_runI (As := []) X.1 ((t_binit (l := l) (D := D) (cy := cy) (aK := aK) (aO := aO) (aS := aS) (aV := aV) (aT := aT) (bS := bS) (bV := bV) (dA := dA) (q := q_2)) H.size) (cwI 0 X.1.2.2.2.2 gZL_lays_J4_init_da8c8 rfl rfl rfl (X.1.2.2.2.2 _ lk1) (X.1.2.2.2.2 _ lk2) (X.1.2.2.2.2 _ lk3) rfl (by decide +kernel) ⟨Nat.le_of_ble_eq_true rfl, Nat.le_of_ble_eq_true rfl⟩) ⟨gPre_blind (ZI_ok _ _ _ _ _ _ _ _), (gPre_of (ZI_ok _ _ _ _ _ _ _ _) X.2.1 X.2.2.1 X.2.2.2.1 hP hD hSs).2⟩ rfl rfl hl0.1 rfl (lv_room (Nat.le_of_ble_eq_true rfl)) dL_lays_20 ⟨by show 75 + 1 ≤ 149; omega, by show 11820 + 4 + 16 ≤ 23646; omega⟩
    rintro u9 ⟨v13, rfl⟩
    refine g_weq (ws9 := lW cy A aK B X8 σ ρ1 ++ ([(qs, .inr (0, [.ref vs, .int 0, .int 0, .int 0])), (vs, .inl (cy 1, ns, .inl fs)), (q_2, .inr (1, [.ref v13, .int 0, .int 0, .int (nI 0)])), (v13, .inl (cy 1, 16, .inl (fun _ => (0 : Int32))))] : va_W)) rfl ?_
    refine g_aload_n X dL_lays_23 rfl 1 rfl ?_
    refine w_afterQ (W1 := lW cy A aK B X8 σ ρ1) (w := [(qs, .inr (0, [.ref vs, .int 0, .int 0, .int 0])), (vs, .inl (cy 1, ns, .inl fs)), (q_2, .inr (1, [.ref v13, .int 0, .int 0, .int (nI 0)])), (v13, .inl (cy 1, 16, .inl (fun _ => (0 : Int32))))]) (wc := [(q_2, .inr (1, [.ref v13, .int 0, .int 0, .int (nI 0)])), (v13, .inl (cy 1, 16, .inl (fun _ => (0 : Int32)))), (qs, .inr (0, [.ref vs, .int 0, .int 0, .int 0])), (vs, .inl (cy 1, ns, .inl fs))]) (wr := []) X (ZI_ok _ _ _ _ _ _ _ _) [2, 3, 0, 1] [] rfl rfl rfl rfl (by decide) (hM := (t_bapp (l := l) (D := D) (cy := cy) (aK := aK) (aO := aO) (aS := aS) (aV := aV) (aT := aT) (bS := bS) (bV := bV) (dA := dA) (q := q_2) (v := v13) (cap := 16) (n9 := 0) (ml := 0) (f := (fun _ => (0 : Int32))) (qs := qs) (vs := vs) (ns := ns) (fs := fs) (h9 := 0) (z9 := 0) hfs (by decide) (by decide) (by omega) sb_fit0)) (st := []) (mcq := 1) (msq := 262) (a9 := ([.ref q_2, .ref qs] : List Value).toArray) (fun H locs ls hP hD hSs hl0 => ?_) ?_
    · exact va_runV (As := [.ref qs]) X.1 ((t_bapp (l := l) (D := D) (cy := cy) (aK := aK) (aO := aO) (aS := aS) (aV := aV) (aT := aT) (bS := bS) (bV := bV) (dA := dA) (q := q_2) (v := v13) (cap := 16) (n9 := 0) (ml := 0) (f := (fun _ => (0 : Int32))) (qs := qs) (vs := vs) (ns := ns) (fs := fs) (h9 := 0) (z9 := 0) hfs (by decide) (by decide) (by omega) sb_fit0) H.size) (cwV 1 X.1.2.2.2.2 gZL_lays_J4_append_15ec4 rfl rfl rfl (by decide +kernel) ⟨Nat.le_of_ble_eq_true rfl, Nat.le_of_ble_eq_true rfl⟩) ⟨gPre_blind (ZI_ok _ _ _ _ _ _ _ _), va_recv (q0 := 0) X.2.1 hP rfl rfl, (gPre_of (ZI_ok _ _ _ _ _ _ _ _) X.2.1 X.2.2.1 X.2.2.2.1 hP hD hSs).2⟩ rfl rfl hl0.1 rfl (lv_room (Nat.le_of_ble_eq_true rfl)) dL_lays_24 ⟨by show 76 + 1 ≤ 149; omega, by show 11820 + 4 + 16 + 262 ≤ 23646; omega⟩
    rintro r9 u9 ⟨rfl, v14, c14, f14, rfl, hc14, hn14, hf14, lo14, hi14⟩
    have hl14 := lt_app (lt2_0 _) hlt lo14 hi14
    refine g_weq (ws9 := lW cy A aK B X8 σ ρ1 ++ ([(q_2, .inr (1, [.ref v14, .int 0, .int 0, .int (nI (0 + ns))])), (v14, .inl (cy 1, c14, .inl f14)), (qs, .inr (0, [.ref vs, .int 0, .int 0, .int 0])), (vs, .inl (cy 1, ns, .inl fs))] : va_W)) rfl ?_
    refine g_aload_n X dL_lays_27 rfl 3 rfl ?_
    refine g_weq (ws9 := lW cy A aK B (X8 ++ ([(q_2, .inr (1, [.ref v14, .int 0, .int 0, .int (nI (0 + ns))])), (v14, .inl (cy 1, c14, .inl f14)), (qs, .inr (0, [.ref vs, .int 0, .int 0, .int 0])), (vs, .inl (cy 1, ns, .inl fs))] : va_W)) σ ρ1) lW_app.symm ?_
    refine h_cQ (As := [.ref (B 0)]) X (ZI_ok _ _ _ _ _ _ _ _) (t_run (l := l) (D := D) (cy := cy) (aK := aK) (aO := aO) (aS := aS) (aV := aV) (aT := aT) (bS := bS) (bV := bV) (dA := dA) (A := A) (B := B) (X8 := X8 ++ ([(q_2, .inr (1, [.ref v14, .int 0, .int 0, .int (nI (0 + ns))])), (v14, .inl (cy 1, c14, .inl f14)), (qs, .inr (0, [.ref vs, .int 0, .int 0, .int 0])), (vs, .inl (cy 1, ns, .inl fs))] : va_W)) (σ := σ) (ρ0 := ρ1)) (va_cwS 1 X.1.2.2.2.2 gZL_lays_L_run rfl rfl rfl (by decide +kernel) ⟨Nat.le_of_ble_eq_true rfl, Nat.le_of_ble_eq_true rfl⟩) rfl rfl (Nat.le_of_ble_eq_true rfl) ⟨by show 77 + 31 ≤ 149; omega, by show 11820 + 4 + 16 + 262 + 5100 ≤ 23646; omega⟩ dL_lays_28 (k' := 108) (n' := 11820 + 4 + 16 + 262 + 5100) (by have e1 : rmS_run.cells = 31 := rfl; omega) (by have e2 : rmS_run.slots = 5100 := rfl; omega) ?_
    rintro r9 u9 ⟨ρ2, z9, qr, vr, nr, fr, rfl, rfl, hr2, hz9, hfr, hlr, hnr⟩
    refine g_weq (ws9 := lW cy A aK B X8 σ ρ2 ++ ([(q_2, .inr (1, [.ref v14, .int 0, .int 0, .int (nI (0 + ns))])), (v14, .inl (cy 1, c14, .inl f14)), (qs, .inr (0, [.ref vs, .int 0, .int 0, .int 0])), (vs, .inl (cy 1, ns, .inl fs)), (qr, .inr (0, [.ref vr, .int 0, .int 0, .int 0])), (vr, .inl (cy 1, nr, .inl fr))] : va_W)) (by exact wq_app) ?_
    refine w_afterQ (W1 := lW cy A aK B X8 σ ρ2) (w := [(q_2, .inr (1, [.ref v14, .int 0, .int 0, .int (nI (0 + ns))])), (v14, .inl (cy 1, c14, .inl f14)), (qs, .inr (0, [.ref vs, .int 0, .int 0, .int 0])), (vs, .inl (cy 1, ns, .inl fs)), (qr, .inr (0, [.ref vr, .int 0, .int 0, .int 0])), (vr, .inl (cy 1, nr, .inl fr))]) (wc := [(q_2, .inr (1, [.ref v14, .int 0, .int 0, .int (nI (0 + ns))])), (v14, .inl (cy 1, c14, .inl f14)), (qr, .inr (0, [.ref vr, .int 0, .int 0, .int 0])), (vr, .inl (cy 1, nr, .inl fr))]) (wr := [(qs, .inr (0, [.ref vs, .int 0, .int 0, .int 0])), (vs, .inl (cy 1, ns, .inl fs))]) X (ZI_ok _ _ _ _ _ _ _ _) [0, 1, 4, 5] [2, 3] rfl rfl rfl rfl (by decide) (hM := (t_bapp (l := l) (D := D) (cy := cy) (aK := aK) (aO := aO) (aS := aS) (aV := aV) (aT := aT) (bS := bS) (bV := bV) (dA := dA) (q := q_2) (v := v14) (cap := c14) (n9 := (0 + ns)) (ml := 0) (f := f14) (qs := qr) (vs := vr) (ns := nr) (fs := fr) (h9 := 0) (z9 := 0) hfr hc14 hn14 (by omega) hf14)) (st := []) (mcq := 1) (msq := 262) (a9 := ([.ref q_2, .ref qr] : List Value).toArray) (fun H locs ls hP hD hSs hl0 => ?_) ?_
    · exact va_runV (As := [.ref qr]) X.1 ((t_bapp (l := l) (D := D) (cy := cy) (aK := aK) (aO := aO) (aS := aS) (aV := aV) (aT := aT) (bS := bS) (bV := bV) (dA := dA) (q := q_2) (v := v14) (cap := c14) (n9 := (0 + ns)) (ml := 0) (f := f14) (qs := qr) (vs := vr) (ns := nr) (fs := fr) (h9 := 0) (z9 := 0) hfr hc14 hn14 (by omega) hf14) H.size) (cwV 1 X.1.2.2.2.2 gZL_lays_J4_append_15ec4 rfl rfl rfl (by decide +kernel) ⟨Nat.le_of_ble_eq_true rfl, Nat.le_of_ble_eq_true rfl⟩) ⟨gPre_blind (ZI_ok _ _ _ _ _ _ _ _), va_recv (q0 := 0) X.2.1 hP rfl rfl, (gPre_of (ZI_ok _ _ _ _ _ _ _ _) X.2.1 X.2.2.1 X.2.2.2.1 hP hD hSs).2⟩ rfl rfl hl0.1 rfl (lv_room (Nat.le_of_ble_eq_true rfl)) dL_lays_31 ⟨by show 108 + 1 ≤ 149; omega, by show 11820 + 4 + 16 + 262 + 5100 + 262 ≤ 23646; omega⟩
    rintro r9 u9 ⟨rfl, v15, c15, f15, rfl, hc15, hn15, hf15, lo15, hi15⟩
    have hl15 := lt_app hl14 hlr lo15 hi15
    refine g_weq (ws9 := lW cy A aK B X8 σ ρ2 ++ ([(qs, .inr (0, [.ref vs, .int 0, .int 0, .int 0])), (vs, .inl (cy 1, ns, .inl fs)), (q_2, .inr (1, [.ref v15, .int 0, .int 0, .int (nI (0 + ns + nr))])), (v15, .inl (cy 1, c15, .inl f15)), (qr, .inr (0, [.ref vr, .int 0, .int 0, .int 0])), (vr, .inl (cy 1, nr, .inl fr))] : va_W)) rfl ?_
    refine w_afterQ (W1 := lW cy A aK B X8 σ ρ2) (w := [(qs, .inr (0, [.ref vs, .int 0, .int 0, .int 0])), (vs, .inl (cy 1, ns, .inl fs)), (q_2, .inr (1, [.ref v15, .int 0, .int 0, .int (nI (0 + ns + nr))])), (v15, .inl (cy 1, c15, .inl f15)), (qr, .inr (0, [.ref vr, .int 0, .int 0, .int 0])), (vr, .inl (cy 1, nr, .inl fr))]) (wc := [(q_2, .inr (1, [.ref v15, .int 0, .int 0, .int (nI (0 + ns + nr))])), (v15, .inl (cy 1, c15, .inl f15))]) (wr := [(qs, .inr (0, [.ref vs, .int 0, .int 0, .int 0])), (vs, .inl (cy 1, ns, .inl fs)), (qr, .inr (0, [.ref vr, .int 0, .int 0, .int 0])), (vr, .inl (cy 1, nr, .inl fr))]) X (ZI_ok _ _ _ _ _ _ _ _) [2, 3] [0, 1, 4, 5] rfl rfl rfl rfl (by decide) (hM := (t_toS (l := l) (D := D) (cy := cy) (aK := aK) (aO := aO) (aS := aS) (aV := aV) (aT := aT) (bS := bS) (bV := bV) (dA := dA) (q := q_2) (v := v15) (cap := c15) (n9 := (0 + ns + nr)) (ml := 0) (f := f15) hn15 hc15 hf15)) (st := []) (mcq := 2) (msq := 266) (a9 := ([.ref q_2] : List Value).toArray) (fun H locs ls hP hD hSs hl0 => ?_) ?_
    · exact va_runV (As := []) X.1 ((t_toS (l := l) (D := D) (cy := cy) (aK := aK) (aO := aO) (aS := aS) (aV := aV) (aT := aT) (bS := bS) (bV := bV) (dA := dA) (q := q_2) (v := v15) (cap := c15) (n9 := (0 + ns + nr)) (ml := 0) (f := f15) hn15 hc15 hf15) H.size) (cwV 0 X.1.2.2.2.2 gZL_lays_J4_toString_0e30d rfl rfl rfl (by decide +kernel) ⟨Nat.le_of_ble_eq_true rfl, Nat.le_of_ble_eq_true rfl⟩) ⟨gPre_blind (ZI_ok _ _ _ _ _ _ _ _), va_recv (q0 := 0) X.2.1 hP rfl rfl, (gPre_of (ZI_ok _ _ _ _ _ _ _ _) X.2.1 X.2.2.1 X.2.2.2.1 hP hD hSs).2⟩ rfl rfl hl0.1 rfl (lv_room (Nat.le_of_ble_eq_true rfl)) dL_lays_34 ⟨by show 109 + 2 ≤ 149; omega, by show 11820 + 4 + 16 + 262 + 5100 + 262 + 266 ≤ 23646; omega⟩
    rintro r9 u9 ⟨q_s16, vs16, fs16, rfl, rfl, hfs16, ls16⟩
    have hls16 := lt_eq hl15 ls16
    refine g_weq (ws9 := lW cy A aK B X8 σ ρ2 ++ ([(qs, .inr (0, [.ref vs, .int 0, .int 0, .int 0])), (vs, .inl (cy 1, ns, .inl fs)), (qr, .inr (0, [.ref vr, .int 0, .int 0, .int 0])), (vr, .inl (cy 1, nr, .inl fr)), (q_s16, .inr (0, [.ref vs16, .int 0, .int 0, .int 0])), (vs16, .inl (cy 1, (0 + ns + nr), .inl fs16))] : va_W)) rfl ?_
    refine g_astore_n X dL_lays_37 rfl (by decide) (lv' := [(3, .ref q_s16), (4, .int (nI 2)), (2, .int (nI row)), (1, .ref (B 0)), (0, .ref (A 0))]) rfl ?_
    refine g_iinc X dL_lays_38 1 rfl (v := nI (1)) (by decide) (by decide) (lv' := [(4, .int (nI (1))), (3, .ref q_s16), (2, .int (nI row)), (1, .ref (B 0)), (0, .ref (A 0))]) rfl ?_
    refine g_goto X (tgt := 11) dL_lays_41 (by decide) ?_
    refine g_subl (ws9 := lW cy A aK B X8 σ ρ2 ++ ([(q_s16, .inr (0, [.ref vs16, .int 0, .int 0, .int 0])), (vs16, .inl (cy 1, (0 + ns + nr), .inl fs16))] : va_W)) (List.Sublist.append_left (.cons _ (.cons _ (.cons _ (.cons _ (.cons₂ _ (.cons₂ _ .slnil)))))) _) ?_
    refine g_sub [0, 1, 2, 3, 4] (lv' := [(4, .int (nI (1))), (3, .ref q_s16), (2, .int (nI row)), (1, .ref (B 0)), (0, .ref (A 0))]) rfl ?_
    refine g_wid (k' := 111) (n' := 17730) (by omega) (by omega) ?_
    exact KJ1 ρ2 (l9 ++ [z9]) q_s16 vs16 (0 + ns + nr) fs16 (ok_snoc hok hz9) hfs16 (lt_snoc (by rw [← List.nil_append (rnA l9)]; exact hls16)) (by rw [List.length_append, List.length_singleton]; omega) (by rw [List.length_append, List.length_singleton]; omega) (by omega)
  have KJ3 : ∀ (ρ1 : St) (l9 : List RN) (qs vs ns : Nat) (fs : Nat → Int32) (hok : ∀ q, q ∈ l9 → okR q) (hfs : sb_Fit fs) (hlt : lt2 (rnA l9) ns fs), 1 ≤ l9.length → l9.length ≤ 1 → ns ≤ 32 → gG p l e rmS_lays s m args below meth c D (cyT cy) B9 6 (MQ below (va_Qi (fun r9 u9 => ∃ (σ9 ρ9 : St) (a9 : AS) (R9 : QR), r9 = 1 ∧ u9 = lW cy A aK B X8 σ9 ρ9 ∧ qIN a9 R9 σ9 ∧ an a9 0 ≤ an a 0 + 800) (gAt D (cyT cy) (fun w9 : va_W => w9) B9) B9) args s 149 23646 B9) (lW cy A aK B X8 σ ρ1 ++ [(qs, .inr (0, [.ref vs, .int 0, .int 0, .int 0])), (vs, .inl (cy 1, ns, .inl fs))]) 37 5910 11 [(4, .int (nI 3)), (3, .ref qs), (2, .int (nI row)), (1, .ref (B 0)), (0, .ref (A 0))] [] := by
    intro ρ1 l9 qs vs ns fs hok hfs hlt hl1 hl4 hns
    have t1 : tL 1 = 0 := rfl
    refine g_iload X dL_lays_11 0 rfl ?_
    refine g_if_le X (tgt := 44) dL_lays_13 (by decide) (fun h9 => absurd h9 (by rw [nz0, nq_le (by omega) (by omega)]; omega)) (fun _ => ?_)
    refine g_new X (fs := [.null, .int 0, .int 0, .int 0]) lk0 tyJ4 tyJ4_ok (by decide +kernel) (by decide +kernel) (by decide +kernel) (ci := 1) rfl (fun j hj => by match j, hj with | 0, _ => rfl | 1, _ => rfl | 2, _ => rfl | 3, _ => rfl) (by show 37 + 1 ≤ 149; omega) (by show 5910 + 4 ≤ 23646; omega) dL_lays_16 (fun q_3 => ?_)
    refine g_weq (ws9 := lW cy A aK B X8 σ ρ1 ++ ([(qs, .inr (0, [.ref vs, .int 0, .int 0, .int 0])), (vs, .inl (cy 1, ns, .inl fs)), (q_3, .inr (1, [.null, .int 0, .int 0, .int 0]))] : va_W)) (List.append_assoc _ _ _) ?_
    refine g_dup X dL_lays_19 rfl ?_
    refine w_afterV (W1 := lW cy A aK B X8 σ ρ1) (w := [(qs, .inr (0, [.ref vs, .int 0, .int 0, .int 0])), (vs, .inl (cy 1, ns, .inl fs)), (q_3, .inr (1, [.null, .int 0, .int 0, .int 0]))]) (wc := [(q_3, .inr (1, [.null, .int 0, .int 0, .int 0]))]) (wr := [(qs, .inr (0, [.ref vs, .int 0, .int 0, .int 0])), (vs, .inl (cy 1, ns, .inl fs))]) X (ZI_ok _ _ _ _ _ _ _ _) [2] [0, 1] rfl rfl rfl rfl (by decide) (hM := (t_binit (l := l) (D := D) (cy := cy) (aK := aK) (aO := aO) (aS := aS) (aV := aV) (aT := aT) (bS := bS) (bV := bV) (dA := dA) (q := q_3))) (st := [.ref q_3]) (mcq := 1) (msq := 16) (a9 := ([.ref q_3] : List Value).toArray) (fun H locs ls hP hD hSs hl0 => ?_) ?_
    · exact va_runI (As := []) X.1 ((t_binit (l := l) (D := D) (cy := cy) (aK := aK) (aO := aO) (aS := aS) (aV := aV) (aT := aT) (bS := bS) (bV := bV) (dA := dA) (q := q_3)) H.size) (cwI 0 X.1.2.2.2.2 gZL_lays_J4_init_da8c8 rfl rfl rfl (X.1.2.2.2.2 _ lk1) (X.1.2.2.2.2 _ lk2) (X.1.2.2.2.2 _ lk3) rfl (by decide +kernel) ⟨Nat.le_of_ble_eq_true rfl, Nat.le_of_ble_eq_true rfl⟩) ⟨gPre_blind (ZI_ok _ _ _ _ _ _ _ _), (gPre_of (ZI_ok _ _ _ _ _ _ _ _) X.2.1 X.2.2.1 X.2.2.2.1 hP hD hSs).2⟩ rfl rfl hl0.1 rfl (lv_room (Nat.le_of_ble_eq_true rfl)) dL_lays_20 ⟨by show 38 + 1 ≤ 149; omega, by show 5910 + 4 + 16 ≤ 23646; omega⟩
    rintro u9 ⟨v17, rfl⟩
    refine g_weq (ws9 := lW cy A aK B X8 σ ρ1 ++ ([(qs, .inr (0, [.ref vs, .int 0, .int 0, .int 0])), (vs, .inl (cy 1, ns, .inl fs)), (q_3, .inr (1, [.ref v17, .int 0, .int 0, .int (nI 0)])), (v17, .inl (cy 1, 16, .inl (fun _ => (0 : Int32))))] : va_W)) rfl ?_
    refine g_aload_n X dL_lays_23 rfl 1 rfl ?_
    refine w_afterQ (W1 := lW cy A aK B X8 σ ρ1) (w := [(qs, .inr (0, [.ref vs, .int 0, .int 0, .int 0])), (vs, .inl (cy 1, ns, .inl fs)), (q_3, .inr (1, [.ref v17, .int 0, .int 0, .int (nI 0)])), (v17, .inl (cy 1, 16, .inl (fun _ => (0 : Int32))))]) (wc := [(q_3, .inr (1, [.ref v17, .int 0, .int 0, .int (nI 0)])), (v17, .inl (cy 1, 16, .inl (fun _ => (0 : Int32)))), (qs, .inr (0, [.ref vs, .int 0, .int 0, .int 0])), (vs, .inl (cy 1, ns, .inl fs))]) (wr := []) X (ZI_ok _ _ _ _ _ _ _ _) [2, 3, 0, 1] [] rfl rfl rfl rfl (by decide) (hM := (t_bapp (l := l) (D := D) (cy := cy) (aK := aK) (aO := aO) (aS := aS) (aV := aV) (aT := aT) (bS := bS) (bV := bV) (dA := dA) (q := q_3) (v := v17) (cap := 16) (n9 := 0) (ml := 0) (f := (fun _ => (0 : Int32))) (qs := qs) (vs := vs) (ns := ns) (fs := fs) (h9 := 0) (z9 := 0) hfs (by decide) (by decide) (by omega) sb_fit0)) (st := []) (mcq := 1) (msq := 262) (a9 := ([.ref q_3, .ref qs] : List Value).toArray) (fun H locs ls hP hD hSs hl0 => ?_) ?_
    · exact va_runV (As := [.ref qs]) X.1 ((t_bapp (l := l) (D := D) (cy := cy) (aK := aK) (aO := aO) (aS := aS) (aV := aV) (aT := aT) (bS := bS) (bV := bV) (dA := dA) (q := q_3) (v := v17) (cap := 16) (n9 := 0) (ml := 0) (f := (fun _ => (0 : Int32))) (qs := qs) (vs := vs) (ns := ns) (fs := fs) (h9 := 0) (z9 := 0) hfs (by decide) (by decide) (by omega) sb_fit0) H.size) (cwV 1 X.1.2.2.2.2 gZL_lays_J4_append_15ec4 rfl rfl rfl (by decide +kernel) ⟨Nat.le_of_ble_eq_true rfl, Nat.le_of_ble_eq_true rfl⟩) ⟨gPre_blind (ZI_ok _ _ _ _ _ _ _ _), va_recv (q0 := 0) X.2.1 hP rfl rfl, (gPre_of (ZI_ok _ _ _ _ _ _ _ _) X.2.1 X.2.2.1 X.2.2.2.1 hP hD hSs).2⟩ rfl rfl hl0.1 rfl (lv_room (Nat.le_of_ble_eq_true rfl)) dL_lays_24 ⟨by show 39 + 1 ≤ 149; omega, by show 5910 + 4 + 16 + 262 ≤ 23646; omega⟩
    rintro r9 u9 ⟨rfl, v18, c18, f18, rfl, hc18, hn18, hf18, lo18, hi18⟩
    have hl18 := lt_app (lt2_0 _) hlt lo18 hi18
    refine g_weq (ws9 := lW cy A aK B X8 σ ρ1 ++ ([(q_3, .inr (1, [.ref v18, .int 0, .int 0, .int (nI (0 + ns))])), (v18, .inl (cy 1, c18, .inl f18)), (qs, .inr (0, [.ref vs, .int 0, .int 0, .int 0])), (vs, .inl (cy 1, ns, .inl fs))] : va_W)) rfl ?_
    refine g_aload_n X dL_lays_27 rfl 3 rfl ?_
    refine g_weq (ws9 := lW cy A aK B (X8 ++ ([(q_3, .inr (1, [.ref v18, .int 0, .int 0, .int (nI (0 + ns))])), (v18, .inl (cy 1, c18, .inl f18)), (qs, .inr (0, [.ref vs, .int 0, .int 0, .int 0])), (vs, .inl (cy 1, ns, .inl fs))] : va_W)) σ ρ1) lW_app.symm ?_
    refine h_cQ (As := [.ref (B 0)]) X (ZI_ok _ _ _ _ _ _ _ _) (t_run (l := l) (D := D) (cy := cy) (aK := aK) (aO := aO) (aS := aS) (aV := aV) (aT := aT) (bS := bS) (bV := bV) (dA := dA) (A := A) (B := B) (X8 := X8 ++ ([(q_3, .inr (1, [.ref v18, .int 0, .int 0, .int (nI (0 + ns))])), (v18, .inl (cy 1, c18, .inl f18)), (qs, .inr (0, [.ref vs, .int 0, .int 0, .int 0])), (vs, .inl (cy 1, ns, .inl fs))] : va_W)) (σ := σ) (ρ0 := ρ1)) (va_cwS 1 X.1.2.2.2.2 gZL_lays_L_run rfl rfl rfl (by decide +kernel) ⟨Nat.le_of_ble_eq_true rfl, Nat.le_of_ble_eq_true rfl⟩) rfl rfl (Nat.le_of_ble_eq_true rfl) ⟨by show 40 + 31 ≤ 149; omega, by show 5910 + 4 + 16 + 262 + 5100 ≤ 23646; omega⟩ dL_lays_28 (k' := 71) (n' := 5910 + 4 + 16 + 262 + 5100) (by have e1 : rmS_run.cells = 31 := rfl; omega) (by have e2 : rmS_run.slots = 5100 := rfl; omega) ?_
    rintro r9 u9 ⟨ρ2, z9, qr, vr, nr, fr, rfl, rfl, hr2, hz9, hfr, hlr, hnr⟩
    refine g_weq (ws9 := lW cy A aK B X8 σ ρ2 ++ ([(q_3, .inr (1, [.ref v18, .int 0, .int 0, .int (nI (0 + ns))])), (v18, .inl (cy 1, c18, .inl f18)), (qs, .inr (0, [.ref vs, .int 0, .int 0, .int 0])), (vs, .inl (cy 1, ns, .inl fs)), (qr, .inr (0, [.ref vr, .int 0, .int 0, .int 0])), (vr, .inl (cy 1, nr, .inl fr))] : va_W)) (by exact wq_app) ?_
    refine w_afterQ (W1 := lW cy A aK B X8 σ ρ2) (w := [(q_3, .inr (1, [.ref v18, .int 0, .int 0, .int (nI (0 + ns))])), (v18, .inl (cy 1, c18, .inl f18)), (qs, .inr (0, [.ref vs, .int 0, .int 0, .int 0])), (vs, .inl (cy 1, ns, .inl fs)), (qr, .inr (0, [.ref vr, .int 0, .int 0, .int 0])), (vr, .inl (cy 1, nr, .inl fr))]) (wc := [(q_3, .inr (1, [.ref v18, .int 0, .int 0, .int (nI (0 + ns))])), (v18, .inl (cy 1, c18, .inl f18)), (qr, .inr (0, [.ref vr, .int 0, .int 0, .int 0])), (vr, .inl (cy 1, nr, .inl fr))]) (wr := [(qs, .inr (0, [.ref vs, .int 0, .int 0, .int 0])), (vs, .inl (cy 1, ns, .inl fs))]) X (ZI_ok _ _ _ _ _ _ _ _) [0, 1, 4, 5] [2, 3] rfl rfl rfl rfl (by decide) (hM := (t_bapp (l := l) (D := D) (cy := cy) (aK := aK) (aO := aO) (aS := aS) (aV := aV) (aT := aT) (bS := bS) (bV := bV) (dA := dA) (q := q_3) (v := v18) (cap := c18) (n9 := (0 + ns)) (ml := 0) (f := f18) (qs := qr) (vs := vr) (ns := nr) (fs := fr) (h9 := 0) (z9 := 0) hfr hc18 hn18 (by omega) hf18)) (st := []) (mcq := 1) (msq := 262) (a9 := ([.ref q_3, .ref qr] : List Value).toArray) (fun H locs ls hP hD hSs hl0 => ?_) ?_
    · exact va_runV (As := [.ref qr]) X.1 ((t_bapp (l := l) (D := D) (cy := cy) (aK := aK) (aO := aO) (aS := aS) (aV := aV) (aT := aT) (bS := bS) (bV := bV) (dA := dA) (q := q_3) (v := v18) (cap := c18) (n9 := (0 + ns)) (ml := 0) (f := f18) (qs := qr) (vs := vr) (ns := nr) (fs := fr) (h9 := 0) (z9 := 0) hfr hc18 hn18 (by omega) hf18) H.size) (cwV 1 X.1.2.2.2.2 gZL_lays_J4_append_15ec4 rfl rfl rfl (by decide +kernel) ⟨Nat.le_of_ble_eq_true rfl, Nat.le_of_ble_eq_true rfl⟩) ⟨gPre_blind (ZI_ok _ _ _ _ _ _ _ _), va_recv (q0 := 0) X.2.1 hP rfl rfl, (gPre_of (ZI_ok _ _ _ _ _ _ _ _) X.2.1 X.2.2.1 X.2.2.2.1 hP hD hSs).2⟩ rfl rfl hl0.1 rfl (lv_room (Nat.le_of_ble_eq_true rfl)) dL_lays_31 ⟨by show 71 + 1 ≤ 149; omega, by show 5910 + 4 + 16 + 262 + 5100 + 262 ≤ 23646; omega⟩
    rintro r9 u9 ⟨rfl, v19, c19, f19, rfl, hc19, hn19, hf19, lo19, hi19⟩
    have hl19 := lt_app hl18 hlr lo19 hi19
    refine g_weq (ws9 := lW cy A aK B X8 σ ρ2 ++ ([(qs, .inr (0, [.ref vs, .int 0, .int 0, .int 0])), (vs, .inl (cy 1, ns, .inl fs)), (q_3, .inr (1, [.ref v19, .int 0, .int 0, .int (nI (0 + ns + nr))])), (v19, .inl (cy 1, c19, .inl f19)), (qr, .inr (0, [.ref vr, .int 0, .int 0, .int 0])), (vr, .inl (cy 1, nr, .inl fr))] : va_W)) rfl ?_
    refine w_afterQ (W1 := lW cy A aK B X8 σ ρ2) (w := [(qs, .inr (0, [.ref vs, .int 0, .int 0, .int 0])), (vs, .inl (cy 1, ns, .inl fs)), (q_3, .inr (1, [.ref v19, .int 0, .int 0, .int (nI (0 + ns + nr))])), (v19, .inl (cy 1, c19, .inl f19)), (qr, .inr (0, [.ref vr, .int 0, .int 0, .int 0])), (vr, .inl (cy 1, nr, .inl fr))]) (wc := [(q_3, .inr (1, [.ref v19, .int 0, .int 0, .int (nI (0 + ns + nr))])), (v19, .inl (cy 1, c19, .inl f19))]) (wr := [(qs, .inr (0, [.ref vs, .int 0, .int 0, .int 0])), (vs, .inl (cy 1, ns, .inl fs)), (qr, .inr (0, [.ref vr, .int 0, .int 0, .int 0])), (vr, .inl (cy 1, nr, .inl fr))]) X (ZI_ok _ _ _ _ _ _ _ _) [2, 3] [0, 1, 4, 5] rfl rfl rfl rfl (by decide) (hM := (t_toS (l := l) (D := D) (cy := cy) (aK := aK) (aO := aO) (aS := aS) (aV := aV) (aT := aT) (bS := bS) (bV := bV) (dA := dA) (q := q_3) (v := v19) (cap := c19) (n9 := (0 + ns + nr)) (ml := 0) (f := f19) hn19 hc19 hf19)) (st := []) (mcq := 2) (msq := 266) (a9 := ([.ref q_3] : List Value).toArray) (fun H locs ls hP hD hSs hl0 => ?_) ?_
    · exact va_runV (As := []) X.1 ((t_toS (l := l) (D := D) (cy := cy) (aK := aK) (aO := aO) (aS := aS) (aV := aV) (aT := aT) (bS := bS) (bV := bV) (dA := dA) (q := q_3) (v := v19) (cap := c19) (n9 := (0 + ns + nr)) (ml := 0) (f := f19) hn19 hc19 hf19) H.size) (cwV 0 X.1.2.2.2.2 gZL_lays_J4_toString_0e30d rfl rfl rfl (by decide +kernel) ⟨Nat.le_of_ble_eq_true rfl, Nat.le_of_ble_eq_true rfl⟩) ⟨gPre_blind (ZI_ok _ _ _ _ _ _ _ _), va_recv (q0 := 0) X.2.1 hP rfl rfl, (gPre_of (ZI_ok _ _ _ _ _ _ _ _) X.2.1 X.2.2.1 X.2.2.2.1 hP hD hSs).2⟩ rfl rfl hl0.1 rfl (lv_room (Nat.le_of_ble_eq_true rfl)) dL_lays_34 ⟨by show 72 + 2 ≤ 149; omega, by show 5910 + 4 + 16 + 262 + 5100 + 262 + 266 ≤ 23646; omega⟩
    rintro r9 u9 ⟨q_s20, vs20, fs20, rfl, rfl, hfs20, ls20⟩
    have hls20 := lt_eq hl19 ls20
    refine g_weq (ws9 := lW cy A aK B X8 σ ρ2 ++ ([(qs, .inr (0, [.ref vs, .int 0, .int 0, .int 0])), (vs, .inl (cy 1, ns, .inl fs)), (qr, .inr (0, [.ref vr, .int 0, .int 0, .int 0])), (vr, .inl (cy 1, nr, .inl fr)), (q_s20, .inr (0, [.ref vs20, .int 0, .int 0, .int 0])), (vs20, .inl (cy 1, (0 + ns + nr), .inl fs20))] : va_W)) rfl ?_
    refine g_astore_n X dL_lays_37 rfl (by decide) (lv' := [(3, .ref q_s20), (4, .int (nI 3)), (2, .int (nI row)), (1, .ref (B 0)), (0, .ref (A 0))]) rfl ?_
    refine g_iinc X dL_lays_38 1 rfl (v := nI (2)) (by decide) (by decide) (lv' := [(4, .int (nI (2))), (3, .ref q_s20), (2, .int (nI row)), (1, .ref (B 0)), (0, .ref (A 0))]) rfl ?_
    refine g_goto X (tgt := 11) dL_lays_41 (by decide) ?_
    refine g_subl (ws9 := lW cy A aK B X8 σ ρ2 ++ ([(q_s20, .inr (0, [.ref vs20, .int 0, .int 0, .int 0])), (vs20, .inl (cy 1, (0 + ns + nr), .inl fs20))] : va_W)) (List.Sublist.append_left (.cons _ (.cons _ (.cons _ (.cons _ (.cons₂ _ (.cons₂ _ .slnil)))))) _) ?_
    refine g_sub [0, 1, 2, 3, 4] (lv' := [(4, .int (nI (2))), (3, .ref q_s20), (2, .int (nI row)), (1, .ref (B 0)), (0, .ref (A 0))]) rfl ?_
    refine g_wid (k' := 74) (n' := 11820) (by omega) (by omega) ?_
    exact KJ2 ρ2 (l9 ++ [z9]) q_s20 vs20 (0 + ns + nr) fs20 (ok_snoc hok hz9) hfs20 (lt_snoc (by rw [← List.nil_append (rnA l9)]; exact hls20)) (by rw [List.length_append, List.length_singleton]; omega) (by rw [List.length_append, List.length_singleton]; omega) (by omega)
  have K0 : gG p l e rmS_lays s m args below meth c D (cyT cy) B9 6 (MQ below (va_Qi (fun r9 u9 => ∃ (σ9 ρ9 : St) (a9 : AS) (R9 : QR), r9 = 1 ∧ u9 = lW cy A aK B X8 σ9 ρ9 ∧ qIN a9 R9 σ9 ∧ an a9 0 ≤ an a 0 + 800) (gAt D (cyT cy) (fun w9 : va_W => w9) B9) B9) args s 149 23646 B9) (lW cy A aK B X8 σ ρ ++ []) 0 0 0 [(0, .ref (A 0)), (1, .ref (B 0)), (2, .int (nI row))] [] := by
    refine g_sub [2, 1, 0] (lv' := [(2, .int (nI row)), (1, .ref (B 0)), (0, .ref (A 0))]) rfl ?_
    refine g_ldcT X (i := 1) (by decide) dL_lays_0 ?_
    refine g_astore_n X dL_lays_2 rfl (by decide) (lv' := [(3, .ref (bS 1)), (2, .int (nI row)), (1, .ref (B 0)), (0, .ref (A 0))]) rfl ?_
    refine g_aload_n X dL_lays_3 rfl 2 rfl ?_
    refine g_iconst X dL_lays_4 (v := (1 : Int32)) (by decide) ?_
    refine g_iconst X dL_lays_5 (v := (4 : Int32)) (by decide) ?_
    obtain ⟨k1, ρ1, hk1, hf1, hr1⟩ := from_nn (a := 1) (b := 4) (by decide) (by decide) ρ
    refine h_callI (As := [.ref (B 0), .int (1 : Int32), .int (4 : Int32)]) (Wf := lWf cy A aK B (X8 ++ [])) (u := (σ, ρ)) (u' := (σ, ρ1)) (ws9 := lW cy A aK B X8 σ ρ1 ++ []) X (ZI_ok _ _ _ _ _ _ _ _) (wI_up (m_L_from hf1)) (va_cwS 3 X.1.2.2.2.2 gZL_lays_L_from rfl rfl rfl (by decide +kernel) ⟨Nat.le_of_ble_eq_true rfl, Nat.le_of_ble_eq_true rfl⟩) rfl rfl (Nat.le_of_ble_eq_true rfl) ⟨by show 0 + 0 ≤ 149; omega, by show 0 + 0 ≤ 23646; omega⟩ dL_lays_6 lW_app lW_app (k' := 0) (n' := 0) (by omega) (by omega) ?_
    refine g_istore X dL_lays_9 (by decide) (lv' := [(4, .int (nI (1 + k1))), (3, .ref (bS 1)), (2, .int (nI row)), (1, .ref (B 0)), (0, .ref (A 0))]) rfl ?_
    have t1 : tL 1 = 0 := rfl
    refine g_iload X dL_lays_11 0 rfl ?_
    refine g_if_le X (tgt := 44) dL_lays_13 (by decide) (fun h9 => absurd h9 (by rw [nz0, nq_le (by omega) (by omega)]; omega)) (fun _ => ?_)
    refine g_new X (fs := [.null, .int 0, .int 0, .int 0]) lk0 tyJ4 tyJ4_ok (by decide +kernel) (by decide +kernel) (by decide +kernel) (ci := 1) rfl (fun j hj => by match j, hj with | 0, _ => rfl | 1, _ => rfl | 2, _ => rfl | 3, _ => rfl) (by show 0 + 1 ≤ 149; omega) (by show 0 + 4 ≤ 23646; omega) dL_lays_16 (fun q_4 => ?_)
    refine g_weq (ws9 := lW cy A aK B X8 σ ρ1 ++ ([(q_4, .inr (1, [.null, .int 0, .int 0, .int 0]))] : va_W)) (List.append_assoc _ _ _) ?_
    refine g_dup X dL_lays_19 rfl ?_
    refine w_afterV (W1 := lW cy A aK B X8 σ ρ1) (w := [(q_4, .inr (1, [.null, .int 0, .int 0, .int 0]))]) (wc := [(q_4, .inr (1, [.null, .int 0, .int 0, .int 0]))]) (wr := []) X (ZI_ok _ _ _ _ _ _ _ _) [0] [] rfl rfl rfl rfl (by decide) (hM := (t_binit (l := l) (D := D) (cy := cy) (aK := aK) (aO := aO) (aS := aS) (aV := aV) (aT := aT) (bS := bS) (bV := bV) (dA := dA) (q := q_4))) (st := [.ref q_4]) (mcq := 1) (msq := 16) (a9 := ([.ref q_4] : List Value).toArray) (fun H locs ls hP hD hSs hl0 => ?_) ?_
    · exact va_runI (As := []) X.1 ((t_binit (l := l) (D := D) (cy := cy) (aK := aK) (aO := aO) (aS := aS) (aV := aV) (aT := aT) (bS := bS) (bV := bV) (dA := dA) (q := q_4)) H.size) (cwI 0 X.1.2.2.2.2 gZL_lays_J4_init_da8c8 rfl rfl rfl (X.1.2.2.2.2 _ lk1) (X.1.2.2.2.2 _ lk2) (X.1.2.2.2.2 _ lk3) rfl (by decide +kernel) ⟨Nat.le_of_ble_eq_true rfl, Nat.le_of_ble_eq_true rfl⟩) ⟨gPre_blind (ZI_ok _ _ _ _ _ _ _ _), (gPre_of (ZI_ok _ _ _ _ _ _ _ _) X.2.1 X.2.2.1 X.2.2.2.1 hP hD hSs).2⟩ rfl rfl hl0.1 rfl (lv_room (Nat.le_of_ble_eq_true rfl)) dL_lays_20 ⟨by show 1 + 1 ≤ 149; omega, by show 0 + 4 + 16 ≤ 23646; omega⟩
    rintro u9 ⟨v21, rfl⟩
    refine g_weq (ws9 := lW cy A aK B X8 σ ρ1 ++ ([(q_4, .inr (1, [.ref v21, .int 0, .int 0, .int (nI 0)])), (v21, .inl (cy 1, 16, .inl (fun _ => (0 : Int32))))] : va_W)) rfl ?_
    refine g_aload_n X dL_lays_23 rfl 1 rfl ?_
    refine w_afterQ (W1 := lW cy A aK B X8 σ ρ1) (w := [(q_4, .inr (1, [.ref v21, .int 0, .int 0, .int (nI 0)])), (v21, .inl (cy 1, 16, .inl (fun _ => (0 : Int32))))]) (wc := [(q_4, .inr (1, [.ref v21, .int 0, .int 0, .int (nI 0)])), (v21, .inl (cy 1, 16, .inl (fun _ => (0 : Int32))))]) (wr := []) X (ZI_ok _ _ _ _ _ _ _ _) [0, 1] [] rfl rfl rfl rfl (by decide) (hM := (t_bappT (l := l) (D := D) (cy := cy) (aK := aK) (aO := aO) (aS := aS) (aV := aV) (aT := aT) (bS := bS) (bV := bV) (dA := dA) (q := q_4) (v := v21) (cap := 16) (n9 := 0) (ml := 0) (f := (fun _ => (0 : Int32))) (i := 1) (by decide) (by decide) (by decide) (by omega) sb_fit0)) (st := []) (mcq := 1) (msq := 262) (a9 := ([.ref q_4, .ref (bS 1)] : List Value).toArray) (fun H locs ls hP hD hSs hl0 => ?_) ?_
    · exact va_runV (As := [.ref (bS 1)]) X.1 ((t_bappT (l := l) (D := D) (cy := cy) (aK := aK) (aO := aO) (aS := aS) (aV := aV) (aT := aT) (bS := bS) (bV := bV) (dA := dA) (q := q_4) (v := v21) (cap := 16) (n9 := 0) (ml := 0) (f := (fun _ => (0 : Int32))) (i := 1) (by decide) (by decide) (by decide) (by omega) sb_fit0) H.size) (cwV 1 X.1.2.2.2.2 gZL_lays_J4_append_15ec4 rfl rfl rfl (by decide +kernel) ⟨Nat.le_of_ble_eq_true rfl, Nat.le_of_ble_eq_true rfl⟩) ⟨gPre_blind (ZI_ok _ _ _ _ _ _ _ _), va_recv (q0 := 0) X.2.1 hP rfl rfl, (gPre_of (ZI_ok _ _ _ _ _ _ _ _) X.2.1 X.2.2.1 X.2.2.2.1 hP hD hSs).2⟩ rfl rfl hl0.1 rfl (lv_room (Nat.le_of_ble_eq_true rfl)) dL_lays_24 ⟨by show 2 + 1 ≤ 149; omega, by show 0 + 4 + 16 + 262 ≤ 23646; omega⟩
    rintro r9 u9 ⟨rfl, v22, c22, f22, rfl, hc22, hn22, hf22, lo22, hi22⟩
    have hl22 := lt_app (lt2_0 _) (tT_lt (by decide)) lo22 hi22
    refine g_weq (ws9 := lW cy A aK B X8 σ ρ1 ++ ([(q_4, .inr (1, [.ref v22, .int 0, .int 0, .int (nI (0 + tL 1))])), (v22, .inl (cy 1, c22, .inl f22))] : va_W)) rfl ?_
    refine g_aload_n X dL_lays_27 rfl 3 rfl ?_
    refine g_weq (ws9 := lW cy A aK B (X8 ++ ([(q_4, .inr (1, [.ref v22, .int 0, .int 0, .int (nI (0 + tL 1))])), (v22, .inl (cy 1, c22, .inl f22))] : va_W)) σ ρ1) lW_app.symm ?_
    refine h_cQ (As := [.ref (B 0)]) X (ZI_ok _ _ _ _ _ _ _ _) (t_run (l := l) (D := D) (cy := cy) (aK := aK) (aO := aO) (aS := aS) (aV := aV) (aT := aT) (bS := bS) (bV := bV) (dA := dA) (A := A) (B := B) (X8 := X8 ++ ([(q_4, .inr (1, [.ref v22, .int 0, .int 0, .int (nI (0 + tL 1))])), (v22, .inl (cy 1, c22, .inl f22))] : va_W)) (σ := σ) (ρ0 := ρ1)) (va_cwS 1 X.1.2.2.2.2 gZL_lays_L_run rfl rfl rfl (by decide +kernel) ⟨Nat.le_of_ble_eq_true rfl, Nat.le_of_ble_eq_true rfl⟩) rfl rfl (Nat.le_of_ble_eq_true rfl) ⟨by show 3 + 31 ≤ 149; omega, by show 0 + 4 + 16 + 262 + 5100 ≤ 23646; omega⟩ dL_lays_28 (k' := 34) (n' := 0 + 4 + 16 + 262 + 5100) (by have e1 : rmS_run.cells = 31 := rfl; omega) (by have e2 : rmS_run.slots = 5100 := rfl; omega) ?_
    rintro r9 u9 ⟨ρ2, z9, qr, vr, nr, fr, rfl, rfl, hr2, hz9, hfr, hlr, hnr⟩
    refine g_weq (ws9 := lW cy A aK B X8 σ ρ2 ++ ([(q_4, .inr (1, [.ref v22, .int 0, .int 0, .int (nI (0 + tL 1))])), (v22, .inl (cy 1, c22, .inl f22)), (qr, .inr (0, [.ref vr, .int 0, .int 0, .int 0])), (vr, .inl (cy 1, nr, .inl fr))] : va_W)) (by exact wq_app) ?_
    refine w_afterQ (W1 := lW cy A aK B X8 σ ρ2) (w := [(q_4, .inr (1, [.ref v22, .int 0, .int 0, .int (nI (0 + tL 1))])), (v22, .inl (cy 1, c22, .inl f22)), (qr, .inr (0, [.ref vr, .int 0, .int 0, .int 0])), (vr, .inl (cy 1, nr, .inl fr))]) (wc := [(q_4, .inr (1, [.ref v22, .int 0, .int 0, .int (nI (0 + tL 1))])), (v22, .inl (cy 1, c22, .inl f22)), (qr, .inr (0, [.ref vr, .int 0, .int 0, .int 0])), (vr, .inl (cy 1, nr, .inl fr))]) (wr := []) X (ZI_ok _ _ _ _ _ _ _ _) [0, 1, 2, 3] [] rfl rfl rfl rfl (by decide) (hM := (t_bapp (l := l) (D := D) (cy := cy) (aK := aK) (aO := aO) (aS := aS) (aV := aV) (aT := aT) (bS := bS) (bV := bV) (dA := dA) (q := q_4) (v := v22) (cap := c22) (n9 := (0 + tL 1)) (ml := 0) (f := f22) (qs := qr) (vs := vr) (ns := nr) (fs := fr) (h9 := 0) (z9 := 0) hfr hc22 hn22 (by omega) hf22)) (st := []) (mcq := 1) (msq := 262) (a9 := ([.ref q_4, .ref qr] : List Value).toArray) (fun H locs ls hP hD hSs hl0 => ?_) ?_
    · exact va_runV (As := [.ref qr]) X.1 ((t_bapp (l := l) (D := D) (cy := cy) (aK := aK) (aO := aO) (aS := aS) (aV := aV) (aT := aT) (bS := bS) (bV := bV) (dA := dA) (q := q_4) (v := v22) (cap := c22) (n9 := (0 + tL 1)) (ml := 0) (f := f22) (qs := qr) (vs := vr) (ns := nr) (fs := fr) (h9 := 0) (z9 := 0) hfr hc22 hn22 (by omega) hf22) H.size) (cwV 1 X.1.2.2.2.2 gZL_lays_J4_append_15ec4 rfl rfl rfl (by decide +kernel) ⟨Nat.le_of_ble_eq_true rfl, Nat.le_of_ble_eq_true rfl⟩) ⟨gPre_blind (ZI_ok _ _ _ _ _ _ _ _), va_recv (q0 := 0) X.2.1 hP rfl rfl, (gPre_of (ZI_ok _ _ _ _ _ _ _ _) X.2.1 X.2.2.1 X.2.2.2.1 hP hD hSs).2⟩ rfl rfl hl0.1 rfl (lv_room (Nat.le_of_ble_eq_true rfl)) dL_lays_31 ⟨by show 34 + 1 ≤ 149; omega, by show 0 + 4 + 16 + 262 + 5100 + 262 ≤ 23646; omega⟩
    rintro r9 u9 ⟨rfl, v23, c23, f23, rfl, hc23, hn23, hf23, lo23, hi23⟩
    have hl23 := lt_app hl22 hlr lo23 hi23
    refine g_weq (ws9 := lW cy A aK B X8 σ ρ2 ++ ([(q_4, .inr (1, [.ref v23, .int 0, .int 0, .int (nI (0 + tL 1 + nr))])), (v23, .inl (cy 1, c23, .inl f23)), (qr, .inr (0, [.ref vr, .int 0, .int 0, .int 0])), (vr, .inl (cy 1, nr, .inl fr))] : va_W)) rfl ?_
    refine w_afterQ (W1 := lW cy A aK B X8 σ ρ2) (w := [(q_4, .inr (1, [.ref v23, .int 0, .int 0, .int (nI (0 + tL 1 + nr))])), (v23, .inl (cy 1, c23, .inl f23)), (qr, .inr (0, [.ref vr, .int 0, .int 0, .int 0])), (vr, .inl (cy 1, nr, .inl fr))]) (wc := [(q_4, .inr (1, [.ref v23, .int 0, .int 0, .int (nI (0 + tL 1 + nr))])), (v23, .inl (cy 1, c23, .inl f23))]) (wr := [(qr, .inr (0, [.ref vr, .int 0, .int 0, .int 0])), (vr, .inl (cy 1, nr, .inl fr))]) X (ZI_ok _ _ _ _ _ _ _ _) [0, 1] [2, 3] rfl rfl rfl rfl (by decide) (hM := (t_toS (l := l) (D := D) (cy := cy) (aK := aK) (aO := aO) (aS := aS) (aV := aV) (aT := aT) (bS := bS) (bV := bV) (dA := dA) (q := q_4) (v := v23) (cap := c23) (n9 := (0 + tL 1 + nr)) (ml := 0) (f := f23) hn23 hc23 hf23)) (st := []) (mcq := 2) (msq := 266) (a9 := ([.ref q_4] : List Value).toArray) (fun H locs ls hP hD hSs hl0 => ?_) ?_
    · exact va_runV (As := []) X.1 ((t_toS (l := l) (D := D) (cy := cy) (aK := aK) (aO := aO) (aS := aS) (aV := aV) (aT := aT) (bS := bS) (bV := bV) (dA := dA) (q := q_4) (v := v23) (cap := c23) (n9 := (0 + tL 1 + nr)) (ml := 0) (f := f23) hn23 hc23 hf23) H.size) (cwV 0 X.1.2.2.2.2 gZL_lays_J4_toString_0e30d rfl rfl rfl (by decide +kernel) ⟨Nat.le_of_ble_eq_true rfl, Nat.le_of_ble_eq_true rfl⟩) ⟨gPre_blind (ZI_ok _ _ _ _ _ _ _ _), va_recv (q0 := 0) X.2.1 hP rfl rfl, (gPre_of (ZI_ok _ _ _ _ _ _ _ _) X.2.1 X.2.2.1 X.2.2.2.1 hP hD hSs).2⟩ rfl rfl hl0.1 rfl (lv_room (Nat.le_of_ble_eq_true rfl)) dL_lays_34 ⟨by show 35 + 2 ≤ 149; omega, by show 0 + 4 + 16 + 262 + 5100 + 262 + 266 ≤ 23646; omega⟩
    rintro r9 u9 ⟨q_s24, vs24, fs24, rfl, rfl, hfs24, ls24⟩
    have hls24 := lt_eq hl23 ls24
    refine g_weq (ws9 := lW cy A aK B X8 σ ρ2 ++ ([(qr, .inr (0, [.ref vr, .int 0, .int 0, .int 0])), (vr, .inl (cy 1, nr, .inl fr)), (q_s24, .inr (0, [.ref vs24, .int 0, .int 0, .int 0])), (vs24, .inl (cy 1, (0 + tL 1 + nr), .inl fs24))] : va_W)) rfl ?_
    refine g_astore_n X dL_lays_37 rfl (by decide) (lv' := [(3, .ref q_s24), (4, .int (nI (1 + k1))), (2, .int (nI row)), (1, .ref (B 0)), (0, .ref (A 0))]) rfl ?_
    refine g_iinc X dL_lays_38 1 rfl (v := nI (k1)) (by rw [show Int32.ofInt (-1) = -nI 1 from rfl, nq_neg1 (by omega), Nat.add_sub_cancel_left]) (by decide) (lv' := [(4, .int (nI (k1))), (3, .ref q_s24), (2, .int (nI row)), (1, .ref (B 0)), (0, .ref (A 0))]) rfl ?_
    refine g_goto X (tgt := 11) dL_lays_41 (by decide) ?_
    refine g_subl (ws9 := lW cy A aK B X8 σ ρ2 ++ ([(q_s24, .inr (0, [.ref vs24, .int 0, .int 0, .int 0])), (vs24, .inl (cy 1, (0 + tL 1 + nr), .inl fs24))] : va_W)) (List.Sublist.append_left (.cons _ (.cons _ (.cons₂ _ (.cons₂ _ .slnil)))) _) ?_
    refine g_sub [0, 1, 2, 3, 4] (lv' := [(4, .int (nI (k1))), (3, .ref q_s24), (2, .int (nI row)), (1, .ref (B 0)), (0, .ref (A 0))]) rfl ?_
    have hok1 : ∀ q, q ∈ [z9] → okR q := fun q hq => by rw [List.mem_singleton.mp hq]; exact hz9
    have hlz : lt2 (rnA [z9]) (0 + tL 1 + nr) fs24 := hls24
    rcases (show k1 = 0 ∨ k1 = 1 ∨ k1 = 2 ∨ k1 = 3 by omega) with rfl | rfl | rfl | rfl
    · refine g_wid (k' := 148) (n' := 23640) (by omega) (by omega) ?_
      exact KJ0 ρ2 [z9] q_s24 vs24 (0 + tL 1 + nr) fs24 hok1 hfs24 hlz (Nat.le_refl _) (Nat.le_of_ble_eq_true rfl) (by omega)
    · refine g_wid (k' := 111) (n' := 17730) (by omega) (by omega) ?_
      exact KJ1 ρ2 [z9] q_s24 vs24 (0 + tL 1 + nr) fs24 hok1 hfs24 hlz (Nat.le_refl _) (Nat.le_of_ble_eq_true rfl) (by omega)
    · refine g_wid (k' := 74) (n' := 11820) (by omega) (by omega) ?_
      exact KJ2 ρ2 [z9] q_s24 vs24 (0 + tL 1 + nr) fs24 hok1 hfs24 hlz (Nat.le_refl _) (Nat.le_of_ble_eq_true rfl) (by omega)
    · refine g_wid (k' := 37) (n' := 5910) (by omega) (by omega) ?_
      exact KJ3 ρ2 [z9] q_s24 vs24 (0 + tL 1 + nr) fs24 hok1 hfs24 hlz (Nat.le_refl _) (Nat.le_of_ble_eq_true rfl) (by omega)
  refine g_weq (ws9 := lW cy A aK B X8 σ ρ ++ []) (List.append_nil _).symm ?_
  exact K0
end TR5
