/-! the law's body -/
section RG
variable {p : Program} {l : Launch} {e : Env} {R : Room} {s : State} {m : MethodId} {args : Array Value} {below : List Frame} {meth : Method} {c : Code} {D : va_G} {tys : List (ClassId × FieldType)} {A : Nat → Prop} {nL : Nat} {Q : State → Prop} {cc : ByteArray} {Ts : List Cond} {own : String} {ret : Option FieldType} {ZZ : (Nat → Prop) → State → Heap → Prop} {k n pc index : Nat} {lv : List (Nat × Value)} {st : List Value} {ws ws9 : va_W}
theorem g_scld (X : gC ZZ p s m args meth c D tys A cc Ts own nL ret) {b L9 : Nat} {xs : Nat → Int32} (hX : va_X b L9 xs s s.heap) (hbl : b < s.heap.size) (hbA : ¬ A b) {i : Int32} (hin : vp_in i L9) (hdg : decode cc pc = .ok (.iaload, 1)) (kk : gG p l e R s m args below meth c D tys A nL Q ws k n (pc + 1) lv (.int (xs i.toNatClampNeg) :: st)) : gG p l e R s m args below meth c D tys A nL Q ws k n pc lv (.int i :: .ref b :: st) := by
  intro H locs ls hP hD hSs hl0
  exact va_sld X.1.1 X.1.2.1 hX hbl hbA hSs hin hdg (kk H locs ls hP hD hSs hl0)
theorem g_sclen (X : gC ZZ p s m args meth c D tys A cc Ts own nL ret) {b L9 : Nat} {xs : Nat → Int32} (hX : va_X b L9 xs s s.heap) (hbl : b < s.heap.size) (hbA : ¬ A b) (hdg : decode cc pc = .ok (.arraylength, 1)) (kk : gG p l e R s m args below meth c D tys A nL Q ws k n (pc + 1) lv (.int (Int32.ofNat L9) :: st)) : gG p l e R s m args below meth c D tys A nL Q ws k n pc lv (.ref b :: st) := by
  intro H locs ls hP hD hSs hl0
  exact va_slen X.1.1 X.1.2.1 hX hbl hbA hSs hdg (kk H locs ls hP hD hSs hl0)
theorem g_ialdK (X : gC ZZ p s m args meth c D tys A cc Ts own nL ret) (q0 t0 : Nat) {q N : Nat} {cA : ClassId} {f : Nat → Int32} (ha : ws[q0]? = some (q, .inl (cA, N, .inl f))) (ht : tys[t0]? = some (cA, .int)) {i : Int32} (hin : vp_in i N) (hdg : decode cc pc = .ok (.iaload, 1)) (kk : gG p l e R s m args below meth c D tys A nL Q ws k n (pc + 1) lv (.int (f i.toNatClampNeg) :: st)) : gG p l e R s m args below meth c D tys A nL Q ws k n pc lv (.int i :: .ref q :: st) := fun H locs ls hP hD hSs hl0 =>
  va_iald X.1.1 X.1.2.1 X.2.1 hP q0 t0 ha ht hin hdg (kk H locs ls hP hD hSs hl0)
theorem vr_up_all {α : Type} (l : List Nat) (v : α) : vr_up (fun _ => v) l v = fun _ => v := by
  funext a
  unfold vr_up
  split <;> rfl
theorem g_mna (X : gC ZZ p s m args meth c D tys A cc Ts own nL ret) (hlink : (Cond.classLink own index ("[" ++ (FieldType.array .int).toString)).before args s = true) (hover : va_AOA .int s) (harr : (Cond.arrayClass .int).before args s = true) {cI cO : ClassId} (t0 t5 : Nat) (h0 : tys[t0]? = some (cI, .int)) (h5 : tys[t5]? = some (cO, .array .int)) (hcy : s.vm.findClass (FieldType.array .int).toString = some cI) {nn kk9 : Int32} {N' K' : Nat} (hn : ¬ nn < 0) (hk : ¬ kk9 < 0) (hN : nn.toNatClampNeg = N') (hM : kk9.toNatClampNeg = K') (hb1 : N' * 4 ≤ 536870912) (hb2 : K' * 4 ≤ 536870912) (hcells : k + (1 + N') ≤ R.cells) (hslots : n + (N' + N' * K') ≤ R.slots) (hdg : decode cc pc = .ok (.multianewarray index 2, 4))
    (kk : ∀ (q : Nat) (r : Nat → Nat), gG p l e R s m args below meth c D tys A nL Q ((ws ++ [(q, .inl (cO, N', .inr (.inr (.inr (.inr (fun i => if i < N' then some (r i) else none))))))]) ++ (List.range N').map (fun i => (r i, .inl (cI, K', .inl (fun _ => (0 : Int32)))))) (k + 1 + N') (n + N' + N' * K') (pc + 4) lv (.ref q :: st)) : gG p l e R s m args below meth c D tys A nL Q ws k n pc lv (.int kk9 :: .int nn :: st) := by
  intro H locs ls hP hD hSs hl0
  refine va_mna (X := ws) (L := []) (f := fun _ => .inl (cI, K', .inl (fun _ => (0 : Int32)))) (z := (K', .inl (fun _ => (0 : Int32)))) X.1.1 X.1.2.1 X.1.2.2.2.1 hlink hover harr hcy X.2.1 (by rw [show ws ++ va_pl [] (fun _ => (.inl (cI, K', .inl (fun _ => (0 : Int32))) : va_E)) = ws from List.append_nil ws]; exact hP) (by rw [show ws ++ va_pl [] (fun _ => (.inl (cI, K', .inl (fun _ => (0 : Int32))) : va_E)) = ws from List.append_nil ws]; exact hD) hSs X.2.2.1 hn hk hN hM hb1 hb2 (by omega) rfl rfl hcells hslots (fun c => arrV_new c K' (.int 0)) hdg (fun q r cA H1 _ _ hK1 hP1 hD1 hS1 => ?_)
  have e1 := vaK_uniq hK1 h5
  subst e1
  have e2 : va_pl ([] ++ (List.range N').map r) (vr_up (fun _ => (.inl (cI, K', .inl (fun _ => (0 : Int32))) : va_E)) ((List.range N').map r) (.inl (cI, K', .inl (fun _ => (0 : Int32))))) = (List.range N').map (fun i => (r i, .inl (cI, K', .inl (fun _ => (0 : Int32))))) := by
    rw [vr_up_all, List.nil_append]
    unfold va_pl
    rw [List.map_map]; rfl
  rw [e2] at hP1 hD1
  exact kk q r H1 locs ls hP1 hD1 hS1 hl0
end RG
section LB
variable {p : Program} {l : Launch} {e : Env} {s : State} {m : MethodId} {args : Array Value} {below : List Frame} {meth : Method} {c : Code} {D : va_G} {A0 : Nat → Prop} {Q : State → Prop} {cy : Nat → ClassId} {aK aO aS aV aT bS bV dA : Nat → Nat} {b L : Nat} {xs : Nat → Int32}
set_option maxHeartbeats 8000000 in
set_option maxRecDepth 100000 in
theorem law_plays (X : gC (ZI aK aO aS aV aT bS bV dA) p s m args meth c D (cyT cy) A0 cL_law wzL_law RL 6 ret) (hl : l.stackTraces = false) (hret : ∀ (ws : va_W) (k n : Nat) (lv : List (Nat × Value)), k ≤ 600104 → n ≤ 7301314 → gG p l e room_1 s m args below meth c D (cyT cy) A0 6 Q ws k n 102 lv [.int 1]) {B : Nat → Nat} {ρ0 : St} : gG p l e room_1 s m args below meth c D (cyT cy) A0 6 Q (wF B (lE cy B) lL [] ρ0) 14 32010 71 [(5, .ref (B 13)), (4, .ref (B (1 + 2))), (3, .ref (B (1 + 1))), (2, .ref (B (1 + 0))), (1, .ref (B 0))] [] := by
  refine g_aload_n X dL_law_71 rfl 4 rfl ?_
  refine g_aload_n X dL_law_72 rfl 3 rfl ?_
  refine g_aload_n X dL_law_73 rfl 2 rfl ?_
  refine g_aload X dL_law_74 1 rfl ?_
  refine g_aload X dL_law_76 0 rfl ?_
  refine h_cI (As := [.ref (B 0), .ref (B (1 + 0)), .ref (B (1 + 1)), .ref (B (1 + 2)), .ref (B 13)]) X (ZI_ok _ _ _ _ _ _ _ _) (t_plays (X8 := []) (ρ := ρ0) hl) (va_cwS 5 X.1.2.2.2.2 gZL_law_L_plays rfl rfl rfl (by decide +kernel) ⟨Nat.le_of_ble_eq_true rfl, Nat.le_of_ble_eq_true rfl⟩) rfl rfl (Nat.le_of_ble_eq_true rfl) ⟨Nat.le_of_ble_eq_true rfl, Nat.le_of_ble_eq_true rfl⟩ dL_law_78 (k' := 3454) (n' := 584910) (Nat.le_of_ble_eq_true rfl) (Nat.le_of_ble_eq_true rfl) ?_
  rintro r9 u9 ⟨ρ1, rfl, rfl⟩
  refine g_if_eq X (tgt := 101) dL_law_81 (by decide) (fun h9 => absurd h9 (by decide)) (fun _ => ?_)
  refine g_aload_n X dL_law_84 rfl 4 rfl ?_
  refine g_aload_n X dL_law_85 rfl 3 rfl ?_
  refine g_aload_n X dL_law_86 rfl 2 rfl ?_
  refine g_aload X dL_law_87 1 rfl ?_
  refine g_aload X dL_law_89 0 rfl ?_
  refine h_cI (As := [.ref (B 0), .ref (B (1 + 0)), .ref (B (1 + 1)), .ref (B (1 + 2)), .ref (B 13)]) X (ZI_ok _ _ _ _ _ _ _ _) (t_plays (X8 := []) (ρ := ρ1) hl) (va_cwS 5 X.1.2.2.2.2 gZL_law_L_plays rfl rfl rfl (by decide +kernel) ⟨Nat.le_of_ble_eq_true rfl, Nat.le_of_ble_eq_true rfl⟩) rfl rfl (Nat.le_of_ble_eq_true rfl) ⟨Nat.le_of_ble_eq_true rfl, Nat.le_of_ble_eq_true rfl⟩ dL_law_91 (k' := 6894) (n' := 1137810) (Nat.le_of_ble_eq_true rfl) (Nat.le_of_ble_eq_true rfl) ?_
  rintro r9 u9 ⟨ρ2, rfl, rfl⟩
  refine g_if_eq X (tgt := 101) dL_law_94 (by decide) (fun h9 => absurd h9 (by decide)) (fun _ => ?_)
  refine g_iconst X dL_law_97 (v := (1 : Int32)) (by decide) ?_
  refine g_goto X (tgt := 102) dL_law_98 (by decide) ?_
  exact hret _ _ _ _ (Nat.le_of_ble_eq_true rfl) (Nat.le_of_ble_eq_true rfl)
set_option maxHeartbeats 8000000 in
set_option maxRecDepth 100000 in
theorem law_body (X : gC (ZI aK aO aS aV aT bS bV dA) p s m args meth c D (cyT cy) A0 cL_law wzL_law RL 6 ret) (ht : ∀ w ∈ tables_1, w.before args s = true) (hAA : va_AOA .int s) (hl : l.stackTraces = false) (hX : va_X b L xs s s.heap) (hbl : b < s.heap.size) (hbA : ¬ A0 b) (hL : L ≤ 260) (hret : ∀ (ws : va_W) (k n : Nat) (lv : List (Nat × Value)), k ≤ 600104 → n ≤ 7301314 → gG p l e room_1 s m args below meth c D (cyT cy) A0 6 Q ws k n 102 lv [.int 1]) : gG p l e room_1 s m args below meth c D (cyT cy) A0 6 Q [] 0 0 0 [(0, .ref b)] [] := by
  have XT : gC (ZI aK aO aS aV aT bS bV dA) p s m args meth c D (cyT cy) A0 cL_law tables_1 RL 6 ret := ⟨⟨X.1.1, X.1.2.1, X.1.2.2.1, X.1.2.2.2.1, ht⟩, X.2⟩
  refine g_iconst X dL_law_0 (v := (1 : Int32)) (by decide) ?_
  refine g_newa XT (atype := .int) (a0 := (1, .inl (fun _ => (0 : Int32)))) (N := 1) (cA := cy 0) (by decide +kernel) rfl 0 rfl (fun _ => rfl) (by decide) (by decide) (Nat.le_of_ble_eq_true rfl) (Nat.le_of_ble_eq_true rfl) (Nat.le_of_ble_eq_true rfl) dL_law_1 (fun q0 => ?_)
  refine g_weq (ws9 := [(q0, .inl (cy 0, 1, .inl (fun _ => (0 : Int32))))]) rfl ?_
  refine g_dup X dL_law_3 rfl ?_
  refine g_iconst X dL_law_4 (v := (0 : Int32)) (by decide) ?_
  refine g_ldc XT dL_law_5 (v := (59480 : Int32)) (by decide +kernel) ?_
  refine g_iastK X 0 0 rfl rfl (by unfold vp_in; decide +kernel) dL_law_7 (ws9 := [(q0, .inl (cy 0, 1, .inl (upd (fun _ => (0 : Int32)) (0 : Int32).toNatClampNeg (59480 : Int32))))]) rfl ?_
  refine g_astore_n X dL_law_8 rfl (by decide) (lv' := [(1, .ref q0), (0, .ref b)]) rfl ?_
  refine g_iconst X dL_law_9 (v := (0 : Int32)) (by decide) ?_
  refine g_istore_n X dL_law_10 rfl (by decide) (lv' := [(2, .int (nI 0)), (1, .ref q0), (0, .ref b)]) rfl ?_
  have KL : ∀ (d i : Nat) (f : Nat → Int32), i + d = L → gG p l e room_1 s m args below meth c D (cyT cy) A0 6 Q [(q0, .inl (cy 0, 1, .inl (f)))] 1 1 11 [(2, .int (nI i)), (1, .ref q0), (0, .ref b)] [] := by
    intro d
    induction d with
    | zero =>
      intro i f hi
      refine g_iload_n X dL_law_11 rfl 0 rfl ?_
      refine g_aload_n X dL_law_12 rfl 2 rfl ?_
      refine g_sclen X hX hbl hbA dL_law_13 ?_
      refine g_icmp_ge X (tgt := 36) dL_law_14 (by decide) (fun _ => ?_) (fun h9 => absurd (show Int32.ofNat L ≤ nI i by rw [show i = L by omega]; exact Int32.le_refl _) h9)
      refine g_sub [1] (lv' := [(1, .ref q0)]) rfl ?_
      refine g_iconst X dL_law_36 (v := (3 : Int32)) (by decide) ?_
      refine g_sipush X dL_law_37 (v := (3200 : Int32)) (by decide) ?_
      refine g_mna XT (index := 245) (ht _ (by decide +kernel)) hAA (ht _ (by decide +kernel)) 0 5 rfl rfl (X.2.1.2 0 _ rfl).2 (N' := 3) (K' := 3200) (by decide) (by decide) (by decide) (by decide) (by decide) (by decide) (Nat.le_of_ble_eq_true rfl) (Nat.le_of_ble_eq_true rfl) dL_law_40 (fun q1 r1 => ?_)
      refine g_weq (ws9 := [(q0, .inl (cy 0, 1, .inl (f))), (q1, .inl (cy 5, 3, .inr (.inr (.inr (.inr (fun i => if i < 3 then some (r1 i) else none)))))), (r1 0, .inl (cy 0, 3200, .inl (fun _ => (0 : Int32)))), (r1 1, .inl (cy 0, 3200, .inl (fun _ => (0 : Int32)))), (r1 2, .inl (cy 0, 3200, .inl (fun _ => (0 : Int32))))]) rfl ?_
      refine g_astore_n X dL_law_44 rfl (by decide) (lv' := [(2, .ref q1), (1, .ref q0)]) rfl ?_
      refine g_iconst X dL_law_45 (v := (3 : Int32)) (by decide) ?_
      refine g_sipush X dL_law_46 (v := (3200 : Int32)) (by decide) ?_
      refine g_mna XT (index := 245) (ht _ (by decide +kernel)) hAA (ht _ (by decide +kernel)) 0 5 rfl rfl (X.2.1.2 0 _ rfl).2 (N' := 3) (K' := 3200) (by decide) (by decide) (by decide) (by decide) (by decide) (by decide) (Nat.le_of_ble_eq_true rfl) (Nat.le_of_ble_eq_true rfl) dL_law_49 (fun q2 r2 => ?_)
      refine g_weq (ws9 := [(q0, .inl (cy 0, 1, .inl (f))), (q1, .inl (cy 5, 3, .inr (.inr (.inr (.inr (fun i => if i < 3 then some (r1 i) else none)))))), (r1 0, .inl (cy 0, 3200, .inl (fun _ => (0 : Int32)))), (r1 1, .inl (cy 0, 3200, .inl (fun _ => (0 : Int32)))), (r1 2, .inl (cy 0, 3200, .inl (fun _ => (0 : Int32)))), (q2, .inl (cy 5, 3, .inr (.inr (.inr (.inr (fun i => if i < 3 then some (r2 i) else none)))))), (r2 0, .inl (cy 0, 3200, .inl (fun _ => (0 : Int32)))), (r2 1, .inl (cy 0, 3200, .inl (fun _ => (0 : Int32)))), (r2 2, .inl (cy 0, 3200, .inl (fun _ => (0 : Int32))))]) rfl ?_
      refine g_astore_n X dL_law_53 rfl (by decide) (lv' := [(3, .ref q2), (2, .ref q1), (1, .ref q0)]) rfl ?_
      refine g_iconst X dL_law_54 (v := (3 : Int32)) (by decide) ?_
      refine g_sipush X dL_law_55 (v := (3200 : Int32)) (by decide) ?_
      refine g_mna XT (index := 245) (ht _ (by decide +kernel)) hAA (ht _ (by decide +kernel)) 0 5 rfl rfl (X.2.1.2 0 _ rfl).2 (N' := 3) (K' := 3200) (by decide) (by decide) (by decide) (by decide) (by decide) (by decide) (Nat.le_of_ble_eq_true rfl) (Nat.le_of_ble_eq_true rfl) dL_law_58 (fun q3 r3 => ?_)
      refine g_weq (ws9 := [(q0, .inl (cy 0, 1, .inl (f))), (q1, .inl (cy 5, 3, .inr (.inr (.inr (.inr (fun i => if i < 3 then some (r1 i) else none)))))), (r1 0, .inl (cy 0, 3200, .inl (fun _ => (0 : Int32)))), (r1 1, .inl (cy 0, 3200, .inl (fun _ => (0 : Int32)))), (r1 2, .inl (cy 0, 3200, .inl (fun _ => (0 : Int32)))), (q2, .inl (cy 5, 3, .inr (.inr (.inr (.inr (fun i => if i < 3 then some (r2 i) else none)))))), (r2 0, .inl (cy 0, 3200, .inl (fun _ => (0 : Int32)))), (r2 1, .inl (cy 0, 3200, .inl (fun _ => (0 : Int32)))), (r2 2, .inl (cy 0, 3200, .inl (fun _ => (0 : Int32)))), (q3, .inl (cy 5, 3, .inr (.inr (.inr (.inr (fun i => if i < 3 then some (r3 i) else none)))))), (r3 0, .inl (cy 0, 3200, .inl (fun _ => (0 : Int32)))), (r3 1, .inl (cy 0, 3200, .inl (fun _ => (0 : Int32)))), (r3 2, .inl (cy 0, 3200, .inl (fun _ => (0 : Int32))))]) rfl ?_
      refine g_astore X dL_law_62 (by decide) (lv' := [(4, .ref q3), (3, .ref q2), (2, .ref q1), (1, .ref q0)]) rfl ?_
      refine g_sipush X dL_law_64 (v := (3200 : Int32)) (by decide) ?_
      refine g_newa XT (atype := .boolean) (a0 := (3200, .inl (fun _ => (0 : Int32)))) (N := 3200) (cA := cy 2) (by decide +kernel) rfl 2 rfl (fun _ => rfl) (by decide) (by decide) (Nat.le_of_ble_eq_true rfl) (Nat.le_of_ble_eq_true rfl) (Nat.le_of_ble_eq_true rfl) dL_law_67 (fun q4 => ?_)
      refine g_weq (ws9 := [(q0, .inl (cy 0, 1, .inl (f))), (q1, .inl (cy 5, 3, .inr (.inr (.inr (.inr (fun i => if i < 3 then some (r1 i) else none)))))), (r1 0, .inl (cy 0, 3200, .inl (fun _ => (0 : Int32)))), (r1 1, .inl (cy 0, 3200, .inl (fun _ => (0 : Int32)))), (r1 2, .inl (cy 0, 3200, .inl (fun _ => (0 : Int32)))), (q2, .inl (cy 5, 3, .inr (.inr (.inr (.inr (fun i => if i < 3 then some (r2 i) else none)))))), (r2 0, .inl (cy 0, 3200, .inl (fun _ => (0 : Int32)))), (r2 1, .inl (cy 0, 3200, .inl (fun _ => (0 : Int32)))), (r2 2, .inl (cy 0, 3200, .inl (fun _ => (0 : Int32)))), (q3, .inl (cy 5, 3, .inr (.inr (.inr (.inr (fun i => if i < 3 then some (r3 i) else none)))))), (r3 0, .inl (cy 0, 3200, .inl (fun _ => (0 : Int32)))), (r3 1, .inl (cy 0, 3200, .inl (fun _ => (0 : Int32)))), (r3 2, .inl (cy 0, 3200, .inl (fun _ => (0 : Int32)))), (q4, .inl (cy 2, 3200, .inl (fun _ => (0 : Int32))))]) rfl ?_
      refine g_astore X dL_law_69 (by decide) (lv' := [(5, .ref q4), (4, .ref q3), (3, .ref q2), (2, .ref q1), (1, .ref q0)]) rfl ?_
      refine g_refsq 1 (N := 3) (f := fun i => if i < 3 then some (r1 i) else none) (g := fun i => if i < 3 then some ((fun j : Nat => ([q0, q1, q2, q3, r1 0, r1 1, r1 2, r2 0, r2 1, r2 2, r3 0, r3 1, r3 2, q4] : List Nat).getD j 0) (3 * 1 + 1 + i)) else none) (fun i hi => match i, hi with | 0, _ => rfl | 1, _ => rfl | 2, _ => rfl | i + 3, h => absurd h (by omega)) rfl (ws9 := [(q0, .inl (cy 0, 1, .inl (f))), (q1, .inl (cy 5, 3, .inr (.inr (.inr (.inr (fun i => if i < 3 then some ((fun j : Nat => ([q0, q1, q2, q3, r1 0, r1 1, r1 2, r2 0, r2 1, r2 2, r3 0, r3 1, r3 2, q4] : List Nat).getD j 0) (3 * 1 + 1 + i)) else none)))))), (r1 0, .inl (cy 0, 3200, .inl (fun _ => (0 : Int32)))), (r1 1, .inl (cy 0, 3200, .inl (fun _ => (0 : Int32)))), (r1 2, .inl (cy 0, 3200, .inl (fun _ => (0 : Int32)))), (q2, .inl (cy 5, 3, .inr (.inr (.inr (.inr (fun i => if i < 3 then some (r2 i) else none)))))), (r2 0, .inl (cy 0, 3200, .inl (fun _ => (0 : Int32)))), (r2 1, .inl (cy 0, 3200, .inl (fun _ => (0 : Int32)))), (r2 2, .inl (cy 0, 3200, .inl (fun _ => (0 : Int32)))), (q3, .inl (cy 5, 3, .inr (.inr (.inr (.inr (fun i => if i < 3 then some (r3 i) else none)))))), (r3 0, .inl (cy 0, 3200, .inl (fun _ => (0 : Int32)))), (r3 1, .inl (cy 0, 3200, .inl (fun _ => (0 : Int32)))), (r3 2, .inl (cy 0, 3200, .inl (fun _ => (0 : Int32)))), (q4, .inl (cy 2, 3200, .inl (fun _ => (0 : Int32))))]) rfl ?_
      refine g_refsq 5 (N := 3) (f := fun i => if i < 3 then some (r2 i) else none) (g := fun i => if i < 3 then some ((fun j : Nat => ([q0, q1, q2, q3, r1 0, r1 1, r1 2, r2 0, r2 1, r2 2, r3 0, r3 1, r3 2, q4] : List Nat).getD j 0) (3 * 2 + 1 + i)) else none) (fun i hi => match i, hi with | 0, _ => rfl | 1, _ => rfl | 2, _ => rfl | i + 3, h => absurd h (by omega)) rfl (ws9 := [(q0, .inl (cy 0, 1, .inl (f))), (q1, .inl (cy 5, 3, .inr (.inr (.inr (.inr (fun i => if i < 3 then some ((fun j : Nat => ([q0, q1, q2, q3, r1 0, r1 1, r1 2, r2 0, r2 1, r2 2, r3 0, r3 1, r3 2, q4] : List Nat).getD j 0) (3 * 1 + 1 + i)) else none)))))), (r1 0, .inl (cy 0, 3200, .inl (fun _ => (0 : Int32)))), (r1 1, .inl (cy 0, 3200, .inl (fun _ => (0 : Int32)))), (r1 2, .inl (cy 0, 3200, .inl (fun _ => (0 : Int32)))), (q2, .inl (cy 5, 3, .inr (.inr (.inr (.inr (fun i => if i < 3 then some ((fun j : Nat => ([q0, q1, q2, q3, r1 0, r1 1, r1 2, r2 0, r2 1, r2 2, r3 0, r3 1, r3 2, q4] : List Nat).getD j 0) (3 * 2 + 1 + i)) else none)))))), (r2 0, .inl (cy 0, 3200, .inl (fun _ => (0 : Int32)))), (r2 1, .inl (cy 0, 3200, .inl (fun _ => (0 : Int32)))), (r2 2, .inl (cy 0, 3200, .inl (fun _ => (0 : Int32)))), (q3, .inl (cy 5, 3, .inr (.inr (.inr (.inr (fun i => if i < 3 then some (r3 i) else none)))))), (r3 0, .inl (cy 0, 3200, .inl (fun _ => (0 : Int32)))), (r3 1, .inl (cy 0, 3200, .inl (fun _ => (0 : Int32)))), (r3 2, .inl (cy 0, 3200, .inl (fun _ => (0 : Int32)))), (q4, .inl (cy 2, 3200, .inl (fun _ => (0 : Int32))))]) rfl ?_
      refine g_refsq 9 (N := 3) (f := fun i => if i < 3 then some (r3 i) else none) (g := fun i => if i < 3 then some ((fun j : Nat => ([q0, q1, q2, q3, r1 0, r1 1, r1 2, r2 0, r2 1, r2 2, r3 0, r3 1, r3 2, q4] : List Nat).getD j 0) (3 * 3 + 1 + i)) else none) (fun i hi => match i, hi with | 0, _ => rfl | 1, _ => rfl | 2, _ => rfl | i + 3, h => absurd h (by omega)) rfl (ws9 := [(q0, .inl (cy 0, 1, .inl (f))), (q1, .inl (cy 5, 3, .inr (.inr (.inr (.inr (fun i => if i < 3 then some ((fun j : Nat => ([q0, q1, q2, q3, r1 0, r1 1, r1 2, r2 0, r2 1, r2 2, r3 0, r3 1, r3 2, q4] : List Nat).getD j 0) (3 * 1 + 1 + i)) else none)))))), (r1 0, .inl (cy 0, 3200, .inl (fun _ => (0 : Int32)))), (r1 1, .inl (cy 0, 3200, .inl (fun _ => (0 : Int32)))), (r1 2, .inl (cy 0, 3200, .inl (fun _ => (0 : Int32)))), (q2, .inl (cy 5, 3, .inr (.inr (.inr (.inr (fun i => if i < 3 then some ((fun j : Nat => ([q0, q1, q2, q3, r1 0, r1 1, r1 2, r2 0, r2 1, r2 2, r3 0, r3 1, r3 2, q4] : List Nat).getD j 0) (3 * 2 + 1 + i)) else none)))))), (r2 0, .inl (cy 0, 3200, .inl (fun _ => (0 : Int32)))), (r2 1, .inl (cy 0, 3200, .inl (fun _ => (0 : Int32)))), (r2 2, .inl (cy 0, 3200, .inl (fun _ => (0 : Int32)))), (q3, .inl (cy 5, 3, .inr (.inr (.inr (.inr (fun i => if i < 3 then some ((fun j : Nat => ([q0, q1, q2, q3, r1 0, r1 1, r1 2, r2 0, r2 1, r2 2, r3 0, r3 1, r3 2, q4] : List Nat).getD j 0) (3 * 3 + 1 + i)) else none)))))), (r3 0, .inl (cy 0, 3200, .inl (fun _ => (0 : Int32)))), (r3 1, .inl (cy 0, 3200, .inl (fun _ => (0 : Int32)))), (r3 2, .inl (cy 0, 3200, .inl (fun _ => (0 : Int32)))), (q4, .inl (cy 2, 3200, .inl (fun _ => (0 : Int32))))]) rfl ?_
      refine g_pos [0, 1, 5, 9, 2, 3, 4, 6, 7, 8, 10, 11, 12, 13] (by decide) (ws9 := wF (fun j : Nat => ([q0, q1, q2, q3, r1 0, r1 1, r1 2, r2 0, r2 1, r2 2, r3 0, r3 1, r3 2, q4] : List Nat).getD j 0) (lE cy (fun j : Nat => ([q0, q1, q2, q3, r1 0, r1 1, r1 2, r2 0, r2 1, r2 2, r3 0, r3 1, r3 2, q4] : List Nat).getD j 0)) lL [] ((fun _ => 0, fun _ => 0, fun j => if j = 0 then f else fun _ => 0) : St)) rfl ?_
      refine g_wid (k' := 14) (n' := 32010) (by decide) (by decide) ?_
      exact law_plays X hl hret (B := (fun j : Nat => ([q0, q1, q2, q3, r1 0, r1 1, r1 2, r2 0, r2 1, r2 2, r3 0, r3 1, r3 2, q4] : List Nat).getD j 0)) (ρ0 := ((fun _ => 0, fun _ => 0, fun j => if j = 0 then f else fun _ => 0) : St))
    | succ d ih =>
      intro i f hi
      have hin : vp_in (nI i) L := nI_vin (by omega) (by omega)
      refine g_iload_n X dL_law_11 rfl 0 rfl ?_
      refine g_aload_n X dL_law_12 rfl 2 rfl ?_
      refine g_sclen X hX hbl hbA dL_law_13 ?_
      refine g_icmp_ge X (tgt := 36) dL_law_14 (by decide) (fun h9 => absurd h9 (by show ¬ nI L ≤ nI i; rw [nq_le (by omega) (by omega)]; omega)) (fun _ => ?_)
      refine g_aload_n X dL_law_17 rfl 1 rfl ?_
      refine g_iconst X dL_law_18 (v := (0 : Int32)) (by decide) ?_
      refine g_bipush X dL_law_19 (v := (31 : Int32)) (by decide) ?_
      refine g_aload_n X dL_law_21 rfl 1 rfl ?_
      refine g_iconst X dL_law_22 (v := (0 : Int32)) (by decide) ?_
      refine g_ialdK X 0 0 rfl rfl (by unfold vp_in; decide +kernel) dL_law_23 ?_
      refine g_imul X dL_law_24 ?_
      refine g_aload_n X dL_law_25 rfl 2 rfl ?_
      refine g_iload_n X dL_law_26 rfl 0 rfl ?_
      refine g_scld X hX hbl hbA hin dL_law_27 ?_
      refine g_iadd X dL_law_28 ?_
      refine g_iastK X 0 0 rfl rfl (by unfold vp_in; decide +kernel) dL_law_29 rfl ?_
      refine g_iinc X dL_law_30 0 rfl (v := nI (i + 1)) (nq_add i 1) (by decide) (lv' := [(2, .int (nI (i + 1))), (1, .ref q0), (0, .ref b)]) rfl ?_
      refine g_goto X (tgt := 11) dL_law_33 (by decide) ?_
      exact ih (i + 1) _ (by omega)
  exact KL L 0 _ (by omega)
end LB
