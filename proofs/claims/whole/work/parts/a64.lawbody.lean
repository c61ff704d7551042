/-! the law's body -/
section LB
variable {p : Program} {l : Launch} {e : Env} {s : State} {m : MethodId} {args : Array Value} {below : List Frame} {meth : Method} {c : Code} {D : va_G} {A0 : Nat → Prop} {Q : State → Prop} {cy : Nat → ClassId} {Ac aK Am aO aS aV aT : Nat → Nat} {qo qd b L : Nat} {xs : Nat → Int32}
theorem law_open (cy : Nat → ClassId) (Ac aK Am : Nat → Nat) (qo qd : Nat) (u v : va_E) (P1 P2 : va_W) : (((P1 ++ P2) ++ [(qo, u)]) ++ [(qd, v)]).Perm (P1 ++ (qo, u) :: (qd, v) :: (P2 ++ [])) := by
  rw [List.append_nil, List.append_assoc, List.append_assoc]
  exact List.Perm.append_left P1 (List.perm_append_comm (l₁ := P2) (l₂ := [(qo, u), (qd, v)]))
set_option maxHeartbeats 8000000 in
set_option maxRecDepth 100000 in
theorem law_body (X : gC (ZI aK aO aS aV aT) p s m args meth c D (cyT cy) A0 cL_law wzL_law RL 9 ret) (ht : ∀ w ∈ tables_1, w.before args s = true) (hl : l.stackTraces = false) (hX : va_X b L xs s s.heap) (hbl : b < s.heap.size) (hbA : ¬ A0 b) (hL : L ≤ 2560) (hret : ∀ (ws : va_W) (k n : Nat) (lv : List (Nat × Value)), k ≤ 601024 → n ≤ 7293034 → gG p l e room_1 s m args below meth c D (cyT cy) A0 9 Q ws k n 2308 lv []) : gG p l e room_1 s m args below meth c D (cyT cy) A0 9 Q [] 0 0 0 [(0, .ref b)] [] := by
  have hin10 : ∀ w ∈ u_ws RX10 TX10 10, w ∈ tables_1 := by decide +kernel
  have hin11 : ∀ w ∈ u_ws RX11 TX11 27, w ∈ tables_1 := by decide +kernel
  have XT : gC (ZI aK aO aS aV aT) p s m args meth c D (cyT cy) A0 cL_law tables_1 RL 9 ret := ⟨⟨X.1.1, X.1.2.1, X.1.2.2.1, X.1.2.2.2.1, ht⟩, X.2⟩
  refine g_new XT (C := RX10) (T := TX10) (N := 10) (ci := 7) (fs := [.null, .null, .null, .null, .null, .null, .null, .null, .null, .null]) hin10 tyX10 tyX10_ok (by decide +kernel) (by decide +kernel) (by decide +kernel) rfl (fun j hj => match j, hj with | 0, _ => rfl | 1, _ => rfl | 2, _ => rfl | 3, _ => rfl | 4, _ => rfl | 5, _ => rfl | 6, _ => rfl | 7, _ => rfl | 8, _ => rfl | 9, _ => rfl | j + 10, h => absurd h (by omega)) (Nat.le_of_ble_eq_true rfl) (Nat.le_of_ble_eq_true rfl) dL_law_0 (fun q1 => ?_)
  refine g_dup X dL_law_3 rfl ?_
  refine g_callC (R := room_1) (k := 1) (n := 10) (p := p) (l := l) (e := e) (below := below) (st := [.ref q1]) (ws0 := []) (As := []) X (ZI_ok _ _ _ _ _) (c_X10_init q1) (cwI 0 X.1.2.2.2.2 gZ_law_X10_init rfl rfl rfl (ht _ (by decide +kernel)) (ht _ (by decide +kernel)) (ht _ (by decide +kernel)) rfl (by decide +kernel) ⟨Nat.le_of_ble_eq_true rfl, Nat.le_of_ble_eq_true rfl⟩) rfl rfl (Nat.le_of_ble_eq_true rfl) ⟨(Nat.le_of_ble_eq_true rfl), (Nat.le_of_ble_eq_true rfl)⟩ dL_law_4 (fun Ac hc => ?_)
  subst hc
  refine g_weq (ws9 := cL.map (fun j => (Ac j, cE cy Ac aK sZ j))) rfl ?_
  refine g_astore_n X dL_law_7 rfl (by decide) (lv' := [(1, .ref (Ac 0)), (0, .ref b)]) rfl ?_
  refine g_new XT (C := RX11) (T := TX11) (N := 27) (ci := 8) (fs := [.null, .null, .int 0, .null, .null, .null, .null, .null, .int 0, .int 0, .int 0, .null, .null, .int 0, .int 0, .int 0, .int 0, .int 0, .null, .null, .null, .null, .null, .null, .int 0, .null, .null]) hin11 tyX11 tyX11_ok (by decide +kernel) (by decide +kernel) (by decide +kernel) rfl (fun j hj => match j, hj with | 0, _ => rfl | 1, _ => rfl | 2, _ => rfl | 3, _ => rfl | 4, _ => rfl | 5, _ => rfl | 6, _ => rfl | 7, _ => rfl | 8, _ => rfl | 9, _ => rfl | 10, _ => rfl | 11, _ => rfl | 12, _ => rfl | 13, _ => rfl | 14, _ => rfl | 15, _ => rfl | 16, _ => rfl | 17, _ => rfl | 18, _ => rfl | 19, _ => rfl | 20, _ => rfl | 21, _ => rfl | 22, _ => rfl | 23, _ => rfl | 24, _ => rfl | 25, _ => rfl | 26, _ => rfl | j + 27, h => absurd h (by omega)) (Nat.le_of_ble_eq_true rfl) (Nat.le_of_ble_eq_true rfl) dL_law_8 (fun q2 => ?_)
  refine g_dup X dL_law_11 rfl ?_
  refine g_callC (R := room_1) (k := 86) (n := 55234) (p := p) (l := l) (e := e) (below := below) (st := [.ref q2]) (ws0 := cL.map (fun j => (Ac j, cE cy Ac aK sZ j))) (As := []) X (ZI_ok _ _ _ _ _) (c_X11_init q2) (cwI 0 X.1.2.2.2.2 gZ_law_X11_init rfl rfl rfl (ht _ (by decide +kernel)) (ht _ (by decide +kernel)) (ht _ (by decide +kernel)) rfl (by decide +kernel) ⟨Nat.le_of_ble_eq_true rfl, Nat.le_of_ble_eq_true rfl⟩) rfl rfl (Nat.le_of_ble_eq_true rfl) ⟨(Nat.le_of_ble_eq_true rfl), (Nat.le_of_ble_eq_true rfl)⟩ dL_law_12 (fun Am hc => ?_)
  subst hc
  refine g_astore_n X dL_law_15 rfl (by decide) (lv' := [(2, .ref (Am 0)), (1, .ref (Ac 0)), (0, .ref b)]) rfl ?_
  refine g_iconst X dL_law_16 (v := (1 : Int32)) (by decide) ?_
  refine g_newa XT (atype := .long) (a0 := (1, .inr (.inl (fun _ => (0 : Int64))))) (N := 1) (cA := cy 5) (by decide +kernel) rfl 5 rfl (fun _ => rfl) (by decide) (by decide) (Nat.le_of_ble_eq_true rfl) (Nat.le_of_ble_eq_true rfl) (Nat.le_of_ble_eq_true rfl) dL_law_17 (fun qo => ?_)
  refine g_astore_n X dL_law_19 rfl (by decide) (lv' := [(3, .ref qo), (2, .ref (Am 0)), (1, .ref (Ac 0)), (0, .ref b)]) rfl ?_
  refine g_iconst X dL_law_20 (v := (1 : Int32)) (by decide) ?_
  refine g_newa XT (atype := .double) (a0 := (1, .inr (.inr (.inr (.inl (fun _ => (0 : UInt64))))))) (N := 1) (cA := cy 6) (by decide +kernel) rfl 6 rfl (fun _ => rfl) (by decide) (by decide) (Nat.le_of_ble_eq_true rfl) (Nat.le_of_ble_eq_true rfl) (Nat.le_of_ble_eq_true rfl) dL_law_21 (fun qd => ?_)
  refine g_astore X dL_law_23 (by decide) (lv' := [(4, .ref qd), (3, .ref qo), (2, .ref (Am 0)), (1, .ref (Ac 0)), (0, .ref b)]) rfl ?_
  refine g_iconst X dL_law_25 (v := (0 : Int32)) (by decide) ?_
  refine g_istore X dL_law_26 (by decide) (lv' := [(5, .int (0 : Int32)), (4, .ref qd), (3, .ref qo), (2, .ref (Am 0)), (1, .ref (Ac 0)), (0, .ref b)]) rfl ?_
  refine g_sub [5, 4, 3, 2, 1, 0] (lv' := [(0, .ref b), (1, .ref (Ac 0)), (2, .ref (Am 0)), (3, .ref qo), (4, .ref qd), (5, .int (nI (5 * 0)))]) rfl ?_
  refine g_perm (ws9 := LW cy Ac aK Am qo qd sZ tZ (fun _ => 0) (fun _ => 0)) (law_open cy Ac aK Am qo qd _ _ (cL.map (fun j => (Ac j, cE cy Ac aK sZ j))) (mLs.map (fun j => (Am j, mE cy Am tZ j)))) ?_
  exact g_wid (k' := 105 + 4 * 0) (n' := 110524 + 24 * 0) (by decide) (by decide) (law_L (gC_ZL X) hl hX hbl hbA hL hret 513 0 a0Z sZ tZ _ _ rfl (by decide) REL_0)
end LB
