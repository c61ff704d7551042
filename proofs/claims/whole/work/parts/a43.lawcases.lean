section LC
variable {p : Program} {l : Launch} {e : Env} {s : State} {m : MethodId} {args : Array Value} {below : List Frame} {meth : Method} {c : Code} {D : va_G} {A0 : Nat → Prop} {Q : State → Prop} {cy : Nat → ClassId} {Ac aK Am aO aS aV aT : Nat → Nat} {qo qd b L k n : Nat} {xs : Nat → Int32} {i : Int32} {fo : Nat → Int64} {fd : Nat → UInt64} {a : AS} {σ τ : St}
set_option maxHeartbeats 8000000 in
set_option maxRecDepth 100000 in
theorem law_c19 (X : gC (ZL aK aO aS aV aT) p s m args meth c D (cyT cy) A0 cL_law wzL_law RL 9 ret) (hl : l.stackTraces = false) (hX : va_X b L xs s s.heap) (hbl : b < s.heap.size) (hbA : ¬ A0 b) (h1 : vp_in (i + (1 : Int32)) L) (h2 : vp_in (i + (2 : Int32)) L) (h3 : vp_in (i + (3 : Int32)) L) (h4 : vp_in (i + (4 : Int32)) L) (hk : k + 4 ≤ room_1.cells) (hn : n + 24 ≤ room_1.slots) (h : REL a σ τ)
    (kk : ∀ (σ' τ' : St) (a' : AS) (fo' : Nat → Int64) (fd' : Nat → UInt64), REL a' σ' τ' → gG p l e room_1 s m args below meth c D (cyT cy) A0 9 Q (LW cy Ac aK Am qo qd σ' τ' fo' fd') (k + 4) (n + 24) 2302 [(0, .ref b), (1, .ref (Ac 0)), (2, .ref (Am 0)), (3, .ref qo), (4, .ref qd), (5, .int i)] []) : gG p l e room_1 s m args below meth c D (cyT cy) A0 9 Q (LW cy Ac aK Am qo qd σ τ fo fd) k n 1284 [(0, .ref b), (1, .ref (Ac 0)), (2, .ref (Am 0)), (3, .ref qo), (4, .ref qd), (5, .int i)] [] := by
  obtain ⟨r, σ', v, τ', a', hc, hm, hR, ho⟩ := P_keep h ((xs (i + (1 : Int32)).toNatClampNeg))
  refine g_aload_n X dL_law_1284 rfl 1 rfl ?_
  refine g_aload_n X dL_law_1285 rfl 0 rfl ?_
  refine g_iload X dL_law_1286 5 rfl ?_
  refine g_iconst X dL_law_1288 (v := (1 : Int32)) (by decide) ?_
  refine g_iadd X dL_law_1289 ?_
  refine g_scld X hX hbl hbA h1 dL_law_1290 ?_
  refine g_aload_n X dL_law_1291 rfl 3 rfl ?_
  have tail : ∀ (kq : Int32) (f9 : Nat → Int64), gi τ' 10 = kq → (kq = 0 → f9 0 = v.toInt64) → gG p l e room_1 s m args below meth c D (cyT cy) A0 9 Q (LW cy Ac aK Am qo qd σ' τ f9 fd) (k + 1) (n + 6) 1295 [(0, .ref b), (1, .ref (Ac 0)), (2, .ref (Am 0)), (3, .ref qo), (4, .ref qd), (5, .int i)] [.int kq] := by
    intro kq f9 hq hf
    have fin : gG p l e room_1 s m args below meth c D (cyT cy) A0 9 Q (LW cy Ac aK Am qo qd σ' τ' f9 fd) (k + 1) (n + 6) 1337 [(7, .int v), (6, .int kq), (0, .ref b), (1, .ref (Ac 0)), (2, .ref (Am 0)), (3, .ref qo), (4, .ref qd), (5, .int i)] [] := g_goto X (tgt := 2302) dL_law_1337 (by decide) (g_sub [2, 3, 4, 5, 6, 7] rfl (g_wid (Nat.add_le_add_left (by decide) k) (Nat.add_le_add_left (by decide) n) (kk _ _ _ _ _ hR)))
    refine g_istore X dL_law_1295 (by decide) (lv' := [(6, .int kq), (0, .ref b), (1, .ref (Ac 0)), (2, .ref (Am 0)), (3, .ref qo), (4, .ref qd), (5, .int i)]) rfl ?_
    refine g_aload_n X dL_law_1297 rfl 3 rfl ?_
    refine g_aload_n X dL_law_1298 rfl 1 rfl ?_
    refine g_iload X dL_law_1299 6 rfl ?_
    refine g_iconst X dL_law_1301 (v := (1 : Int32)) (by decide) ?_
    refine g_iadd X dL_law_1302 ?_
    refine g_scld X hX hbl hbA h1 dL_law_1303 ?_
    refine g_perm (LW_perm cy Ac aK Am qo qd σ' τ f9 fd) ?_
    refine g_callVI (AD := Am) (E := mE cy Am) (L := mLs) (As := [.int (xs (i + (1 : Int32)).toNatClampNeg)]) X (ZL_ok _ _ _ _ _) (mI_up (m_X11_keep hm)) (cwV 1 X.1.2.2.2.2 gZ_law_X11_keep rfl rfl rfl (by decide +kernel) ⟨Nat.le_of_ble_eq_true rfl, Nat.le_of_ble_eq_true rfl⟩) rfl mm0 (mE_0 cy Am τ) rfl rfl (Nat.le_of_ble_eq_true rfl) ⟨Nat.le_trans (Nat.add_le_add_left (by decide : 1 ≤ 4) k) hk, Nat.le_trans (Nat.add_le_add_left (by decide : 6 ≤ 24) n) hn⟩ dL_law_1304 ?_
    refine g_perm (LW_perm cy Ac aK Am qo qd σ' τ' f9 fd).symm ?_
    refine g_istore X dL_law_1307 (by decide) (lv' := [(7, .int v), (6, .int kq), (0, .ref b), (1, .ref (Ac 0)), (2, .ref (Am 0)), (3, .ref qo), (4, .ref qd), (5, .int i)]) rfl ?_
    refine g_aload_n X dL_law_1309 rfl 4 rfl ?_
    refine g_perm (LW_perm cy Ac aK Am qo qd σ' τ' f9 fd) ?_
    refine g_callVI (AD := Am) (E := mE cy Am) (L := mLs) (As := []) X (ZL_ok _ _ _ _ _) (mI_up (m_X11_thrown (σ := τ') (r := gi τ' 10) rfl)) (cwV 0 X.1.2.2.2.2 gZ_law_X11_thrown rfl rfl rfl (by decide +kernel) ⟨Nat.le_of_ble_eq_true rfl, Nat.le_of_ble_eq_true rfl⟩) rfl mm0 (mE_0 cy Am τ') rfl rfl (Nat.le_of_ble_eq_true rfl) ⟨Nat.le_trans (Nat.add_le_add_left (by decide : 1 ≤ 4) k) hk, Nat.le_trans (Nat.add_le_add_left (by decide : 6 ≤ 24) n) hn⟩ dL_law_1310 ?_
    refine g_perm (LW_perm cy Ac aK Am qo qd σ' τ' f9 fd).symm ?_
    refine g_iload X dL_law_1313 1 rfl ?_
    refine g_icmp_eq X (tgt := 1320) dL_law_1315 (by decide) (fun _ => ?_) (fun z => absurd hq z)
    refine g_iload X dL_law_1320 1 rfl ?_
    refine g_if_ne X (tgt := 1337) dL_law_1322 (by decide) (fun _ => fin) (fun z => ?_)
    refine g_aload_n X dL_law_1325 rfl 5 rfl ?_
    refine g_iconst X dL_law_1326 (v := (0 : Int32)) (by decide) ?_
    refine g_lald X 85 5 (cW_85 _ _ _ _ _) rfl (vp_in_nI (n := 0) (N := 1) (by decide) (by decide)) dL_law_1327 ?_
    have hf := hf z
    refine g_iload X dL_law_1328 0 rfl ?_
    refine g_i2l X dL_law_1330 ?_
    refine g_lcmp X dL_law_1331 ?_
    refine g_if_eq X (tgt := 1337) dL_law_1332 (by decide) (fun _ => fin) (fun z2 => absurd (show lg_cmp (f9 0) (v.toInt64) = 0 by rw [show f9 0 = v.toInt64 from hf]; exact cmp_self _) z2)
  rcases ho with ⟨x, rfl, rfl, h0⟩ | ⟨j, E9, rfl, hE, h0⟩
  · refine g_lawS (Wf := (oL cy Ac aK qo ((qd, .inl (cy 6, 1, .inr (.inr (.inr (.inl fd))))) :: wF Am (mE cy Am) mLs [] τ))) (u := (σ, fo)) (u' := (σ', (vp_updL fo 0 v.toInt64))) (As := [.ref (Ac 0), .int (xs (i + (1 : Int32)).toNatClampNeg), .ref qo]) X (ZL_ok _ _ _ _ _) (w_keep_ok hl hc) (vx_cwSW 3 X.1.2.2.2.2 gZ_law_L_keep rfl rfl rfl (by decide +kernel) ⟨Nat.le_of_ble_eq_true rfl, Nat.le_of_ble_eq_true rfl⟩) rfl rfl (Nat.le_of_ble_eq_true rfl) ⟨Nat.le_trans (Nat.add_le_add_left (by decide : 1 ≤ 4) k) hk, Nat.le_trans (Nat.add_le_add_left (by decide : 6 ≤ 24) n) hn⟩ dL_law_1292 (k' := (k + 1)) (n' := (n + 6)) (Nat.le_refl _) (Nat.le_refl _) rfl rfl ?_
    exact tail 0 _ h0 (fun _ => rfl)
  · match j, hE, h0 with
    | 0, hE, h0 =>
      cases hE
      refine g_lawS (Wf := (oL cy Ac aK qo ((qd, .inl (cy 6, 1, .inr (.inr (.inr (.inl fd))))) :: wF Am (mE cy Am) mLs [] τ))) (u := (σ, fo)) (u' := (σ', fo)) (As := [.ref (Ac 0), .int (xs (i + (1 : Int32)).toNatClampNeg), .ref qo]) X (ZL_ok _ _ _ _ _) (w_keep_x1 hl hc) (vx_cwSW 3 X.1.2.2.2.2 gZ_law_L_keep rfl rfl rfl (by decide +kernel) ⟨Nat.le_of_ble_eq_true rfl, Nat.le_of_ble_eq_true rfl⟩) rfl rfl (Nat.le_of_ble_eq_true rfl) ⟨Nat.le_trans (Nat.add_le_add_left (by decide : 1 ≤ 4) k) hk, Nat.le_trans (Nat.add_le_add_left (by decide : 6 ≤ 24) n) hn⟩ dL_law_1292 (k' := (k + 1)) (n' := (n + 6)) (Nat.le_refl _) (Nat.le_refl _) rfl rfl ?_
      exact tail 1 _ h0 (fun z => absurd z (by decide))
    | j + 1, hE, _ => exact nomatch hE
set_option maxHeartbeats 8000000 in
set_option maxRecDepth 100000 in
theorem law_c20 (X : gC (ZL aK aO aS aV aT) p s m args meth c D (cyT cy) A0 cL_law wzL_law RL 9 ret) (hl : l.stackTraces = false) (hX : va_X b L xs s s.heap) (hbl : b < s.heap.size) (hbA : ¬ A0 b) (h1 : vp_in (i + (1 : Int32)) L) (h2 : vp_in (i + (2 : Int32)) L) (h3 : vp_in (i + (3 : Int32)) L) (h4 : vp_in (i + (4 : Int32)) L) (hk : k + 4 ≤ room_1.cells) (hn : n + 24 ≤ room_1.slots) (h : REL a σ τ)
    (kk : ∀ (σ' τ' : St) (a' : AS) (fo' : Nat → Int64) (fd' : Nat → UInt64), REL a' σ' τ' → gG p l e room_1 s m args below meth c D (cyT cy) A0 9 Q (LW cy Ac aK Am qo qd σ' τ' fo' fd') (k + 4) (n + 24) 2302 [(0, .ref b), (1, .ref (Ac 0)), (2, .ref (Am 0)), (3, .ref qo), (4, .ref qd), (5, .int i)] []) : gG p l e room_1 s m args below meth c D (cyT cy) A0 9 Q (LW cy Ac aK Am qo qd σ τ fo fd) k n 1340 [(0, .ref b), (1, .ref (Ac 0)), (2, .ref (Am 0)), (3, .ref qo), (4, .ref qd), (5, .int i)] [] := by
  obtain ⟨r, σ', v, τ', a', hc, hm, hR, ho⟩ := P_restore h ((xs (i + (1 : Int32)).toNatClampNeg))
  refine g_aload_n X dL_law_1340 rfl 1 rfl ?_
  refine g_aload_n X dL_law_1341 rfl 0 rfl ?_
  refine g_iload X dL_law_1342 5 rfl ?_
  refine g_iconst X dL_law_1344 (v := (1 : Int32)) (by decide) ?_
  refine g_iadd X dL_law_1345 ?_
  refine g_scld X hX hbl hbA h1 dL_law_1346 ?_
  refine g_aload_n X dL_law_1347 rfl 3 rfl ?_
  have tail : ∀ (kq : Int32) (f9 : Nat → Int64), gi τ' 10 = kq → (kq = 0 → f9 0 = v.toInt64) → gG p l e room_1 s m args below meth c D (cyT cy) A0 9 Q (LW cy Ac aK Am qo qd σ' τ f9 fd) (k + 2) (n + 12) 1351 [(0, .ref b), (1, .ref (Ac 0)), (2, .ref (Am 0)), (3, .ref qo), (4, .ref qd), (5, .int i)] [.int kq] := by
    intro kq f9 hq hf
    have fin : gG p l e room_1 s m args below meth c D (cyT cy) A0 9 Q (LW cy Ac aK Am qo qd σ' τ' f9 fd) (k + 2) (n + 12) 1393 [(7, .int v), (6, .int kq), (0, .ref b), (1, .ref (Ac 0)), (2, .ref (Am 0)), (3, .ref qo), (4, .ref qd), (5, .int i)] [] := g_goto X (tgt := 2302) dL_law_1393 (by decide) (g_sub [2, 3, 4, 5, 6, 7] rfl (g_wid (Nat.add_le_add_left (by decide) k) (Nat.add_le_add_left (by decide) n) (kk _ _ _ _ _ hR)))
    refine g_istore X dL_law_1351 (by decide) (lv' := [(6, .int kq), (0, .ref b), (1, .ref (Ac 0)), (2, .ref (Am 0)), (3, .ref qo), (4, .ref qd), (5, .int i)]) rfl ?_
    refine g_aload_n X dL_law_1353 rfl 3 rfl ?_
    refine g_aload_n X dL_law_1354 rfl 1 rfl ?_
    refine g_iload X dL_law_1355 6 rfl ?_
    refine g_iconst X dL_law_1357 (v := (1 : Int32)) (by decide) ?_
    refine g_iadd X dL_law_1358 ?_
    refine g_scld X hX hbl hbA h1 dL_law_1359 ?_
    refine g_perm (LW_perm cy Ac aK Am qo qd σ' τ f9 fd) ?_
    refine g_callVI (AD := Am) (E := mE cy Am) (L := mLs) (As := [.int (xs (i + (1 : Int32)).toNatClampNeg)]) X (ZL_ok _ _ _ _ _) (mI_up (m_X11_restore hm)) (cwV 1 X.1.2.2.2.2 gZ_law_X11_restore rfl rfl rfl (by decide +kernel) ⟨Nat.le_of_ble_eq_true rfl, Nat.le_of_ble_eq_true rfl⟩) rfl mm0 (mE_0 cy Am τ) rfl rfl (Nat.le_of_ble_eq_true rfl) ⟨Nat.le_trans (Nat.add_le_add_left (by decide : 2 ≤ 4) k) hk, Nat.le_trans (Nat.add_le_add_left (by decide : 12 ≤ 24) n) hn⟩ dL_law_1360 ?_
    refine g_perm (LW_perm cy Ac aK Am qo qd σ' τ' f9 fd).symm ?_
    refine g_istore X dL_law_1363 (by decide) (lv' := [(7, .int v), (6, .int kq), (0, .ref b), (1, .ref (Ac 0)), (2, .ref (Am 0)), (3, .ref qo), (4, .ref qd), (5, .int i)]) rfl ?_
    refine g_aload_n X dL_law_1365 rfl 4 rfl ?_
    refine g_perm (LW_perm cy Ac aK Am qo qd σ' τ' f9 fd) ?_
    refine g_callVI (AD := Am) (E := mE cy Am) (L := mLs) (As := []) X (ZL_ok _ _ _ _ _) (mI_up (m_X11_thrown (σ := τ') (r := gi τ' 10) rfl)) (cwV 0 X.1.2.2.2.2 gZ_law_X11_thrown rfl rfl rfl (by decide +kernel) ⟨Nat.le_of_ble_eq_true rfl, Nat.le_of_ble_eq_true rfl⟩) rfl mm0 (mE_0 cy Am τ') rfl rfl (Nat.le_of_ble_eq_true rfl) ⟨Nat.le_trans (Nat.add_le_add_left (by decide : 2 ≤ 4) k) hk, Nat.le_trans (Nat.add_le_add_left (by decide : 12 ≤ 24) n) hn⟩ dL_law_1366 ?_
    refine g_perm (LW_perm cy Ac aK Am qo qd σ' τ' f9 fd).symm ?_
    refine g_iload X dL_law_1369 1 rfl ?_
    refine g_icmp_eq X (tgt := 1376) dL_law_1371 (by decide) (fun _ => ?_) (fun z => absurd hq z)
    refine g_iload X dL_law_1376 1 rfl ?_
    refine g_if_ne X (tgt := 1393) dL_law_1378 (by decide) (fun _ => fin) (fun z => ?_)
    refine g_aload_n X dL_law_1381 rfl 5 rfl ?_
    refine g_iconst X dL_law_1382 (v := (0 : Int32)) (by decide) ?_
    refine g_lald X 85 5 (cW_85 _ _ _ _ _) rfl (vp_in_nI (n := 0) (N := 1) (by decide) (by decide)) dL_law_1383 ?_
    have hf := hf z
    refine g_iload X dL_law_1384 0 rfl ?_
    refine g_i2l X dL_law_1386 ?_
    refine g_lcmp X dL_law_1387 ?_
    refine g_if_eq X (tgt := 1393) dL_law_1388 (by decide) (fun _ => fin) (fun z2 => absurd (show lg_cmp (f9 0) (v.toInt64) = 0 by rw [show f9 0 = v.toInt64 from hf]; exact cmp_self _) z2)
  rcases ho with ⟨x, rfl, rfl, h0⟩ | ⟨j, E9, rfl, hE, h0⟩
  · refine g_lawS (Wf := (oL cy Ac aK qo ((qd, .inl (cy 6, 1, .inr (.inr (.inr (.inl fd))))) :: wF Am (mE cy Am) mLs [] τ))) (u := (σ, fo)) (u' := (σ', (vp_updL fo 0 v.toInt64))) (As := [.ref (Ac 0), .int (xs (i + (1 : Int32)).toNatClampNeg), .ref qo]) X (ZL_ok _ _ _ _ _) (w_restore_ok hl hc) (vx_cwSW 3 X.1.2.2.2.2 gZ_law_L_restore rfl rfl rfl (by decide +kernel) ⟨Nat.le_of_ble_eq_true rfl, Nat.le_of_ble_eq_true rfl⟩) rfl rfl (Nat.le_of_ble_eq_true rfl) ⟨Nat.le_trans (Nat.add_le_add_left (by decide : 2 ≤ 4) k) hk, Nat.le_trans (Nat.add_le_add_left (by decide : 12 ≤ 24) n) hn⟩ dL_law_1348 (k' := (k + 2)) (n' := (n + 12)) (Nat.le_refl _) (Nat.le_refl _) rfl rfl ?_
    exact tail 0 _ h0 (fun _ => rfl)
  · match j, hE, h0 with
    | 0, hE, h0 =>
      cases hE
      refine g_lawS (Wf := (oL cy Ac aK qo ((qd, .inl (cy 6, 1, .inr (.inr (.inr (.inl fd))))) :: wF Am (mE cy Am) mLs [] τ))) (u := (σ, fo)) (u' := (σ', fo)) (As := [.ref (Ac 0), .int (xs (i + (1 : Int32)).toNatClampNeg), .ref qo]) X (ZL_ok _ _ _ _ _) (w_restore_x1 hl hc) (vx_cwSW 3 X.1.2.2.2.2 gZ_law_L_restore rfl rfl rfl (by decide +kernel) ⟨Nat.le_of_ble_eq_true rfl, Nat.le_of_ble_eq_true rfl⟩) rfl rfl (Nat.le_of_ble_eq_true rfl) ⟨Nat.le_trans (Nat.add_le_add_left (by decide : 2 ≤ 4) k) hk, Nat.le_trans (Nat.add_le_add_left (by decide : 12 ≤ 24) n) hn⟩ dL_law_1348 (k' := (k + 2)) (n' := (n + 12)) (Nat.le_refl _) (Nat.le_refl _) rfl rfl ?_
      exact tail 1 _ h0 (fun z => absurd z (by decide))
    | 1, hE, h0 =>
      cases hE
      refine g_lawS (Wf := (oL cy Ac aK qo ((qd, .inl (cy 6, 1, .inr (.inr (.inr (.inl fd))))) :: wF Am (mE cy Am) mLs [] τ))) (u := (σ, fo)) (u' := (σ', fo)) (As := [.ref (Ac 0), .int (xs (i + (1 : Int32)).toNatClampNeg), .ref qo]) X (ZL_ok _ _ _ _ _) (w_restore_x2 hl hc) (vx_cwSW 3 X.1.2.2.2.2 gZ_law_L_restore rfl rfl rfl (by decide +kernel) ⟨Nat.le_of_ble_eq_true rfl, Nat.le_of_ble_eq_true rfl⟩) rfl rfl (Nat.le_of_ble_eq_true rfl) ⟨Nat.le_trans (Nat.add_le_add_left (by decide : 2 ≤ 4) k) hk, Nat.le_trans (Nat.add_le_add_left (by decide : 12 ≤ 24) n) hn⟩ dL_law_1348 (k' := (k + 2)) (n' := (n + 12)) (Nat.le_refl _) (Nat.le_refl _) rfl rfl ?_
      exact tail 2 _ h0 (fun z => absurd z (by decide))
    | j + 2, hE, _ => exact nomatch hE
set_option maxHeartbeats 8000000 in
set_option maxRecDepth 100000 in
theorem law_c21 (X : gC (ZL aK aO aS aV aT) p s m args meth c D (cyT cy) A0 cL_law wzL_law RL 9 ret) (hl : l.stackTraces = false) (hX : va_X b L xs s s.heap) (hbl : b < s.heap.size) (hbA : ¬ A0 b) (h1 : vp_in (i + (1 : Int32)) L) (h2 : vp_in (i + (2 : Int32)) L) (h3 : vp_in (i + (3 : Int32)) L) (h4 : vp_in (i + (4 : Int32)) L) (hk : k + 4 ≤ room_1.cells) (hn : n + 24 ≤ room_1.slots) (h : REL a σ τ)
    (kk : ∀ (σ' τ' : St) (a' : AS) (fo' : Nat → Int64) (fd' : Nat → UInt64), REL a' σ' τ' → gG p l e room_1 s m args below meth c D (cyT cy) A0 9 Q (LW cy Ac aK Am qo qd σ' τ' fo' fd') (k + 4) (n + 24) 2302 [(0, .ref b), (1, .ref (Ac 0)), (2, .ref (Am 0)), (3, .ref qo), (4, .ref qd), (5, .int i)] []) : gG p l e room_1 s m args below meth c D (cyT cy) A0 9 Q (LW cy Ac aK Am qo qd σ τ fo fd) k n 1396 [(0, .ref b), (1, .ref (Ac 0)), (2, .ref (Am 0)), (3, .ref qo), (4, .ref qd), (5, .int i)] [] := by
  obtain ⟨r, v, τ', a', hc, hm, hR, ho⟩ := P_count h ((xs (i + (1 : Int32)).toNatClampNeg))
  refine g_aload_n X dL_law_1396 rfl 1 rfl ?_
  refine g_aload_n X dL_law_1397 rfl 0 rfl ?_
  refine g_iload X dL_law_1398 5 rfl ?_
  refine g_iconst X dL_law_1400 (v := (1 : Int32)) (by decide) ?_
  refine g_iadd X dL_law_1401 ?_
  refine g_scld X hX hbl hbA h1 dL_law_1402 ?_
  refine g_aload_n X dL_law_1403 rfl 3 rfl ?_
  have tail : ∀ (kq : Int32) (f9 : Nat → Int64), gi τ' 10 = kq → (kq = 0 → f9 0 = v.toInt64) → gG p l e room_1 s m args below meth c D (cyT cy) A0 9 Q (LW cy Ac aK Am qo qd σ τ f9 fd) (k + 1) (n + 6) 1407 [(0, .ref b), (1, .ref (Ac 0)), (2, .ref (Am 0)), (3, .ref qo), (4, .ref qd), (5, .int i)] [.int kq] := by
    intro kq f9 hq hf
    have fin : gG p l e room_1 s m args below meth c D (cyT cy) A0 9 Q (LW cy Ac aK Am qo qd σ τ' f9 fd) (k + 1) (n + 6) 1449 [(7, .int v), (6, .int kq), (0, .ref b), (1, .ref (Ac 0)), (2, .ref (Am 0)), (3, .ref qo), (4, .ref qd), (5, .int i)] [] := g_goto X (tgt := 2302) dL_law_1449 (by decide) (g_sub [2, 3, 4, 5, 6, 7] rfl (g_wid (Nat.add_le_add_left (by decide) k) (Nat.add_le_add_left (by decide) n) (kk _ _ _ _ _ hR)))
    refine g_istore X dL_law_1407 (by decide) (lv' := [(6, .int kq), (0, .ref b), (1, .ref (Ac 0)), (2, .ref (Am 0)), (3, .ref qo), (4, .ref qd), (5, .int i)]) rfl ?_
    refine g_aload_n X dL_law_1409 rfl 3 rfl ?_
    refine g_aload_n X dL_law_1410 rfl 1 rfl ?_
    refine g_iload X dL_law_1411 6 rfl ?_
    refine g_iconst X dL_law_1413 (v := (1 : Int32)) (by decide) ?_
    refine g_iadd X dL_law_1414 ?_
    refine g_scld X hX hbl hbA h1 dL_law_1415 ?_
    refine g_perm (LW_perm cy Ac aK Am qo qd σ τ f9 fd) ?_
    refine g_callVI (AD := Am) (E := mE cy Am) (L := mLs) (As := [.int (xs (i + (1 : Int32)).toNatClampNeg)]) X (ZL_ok _ _ _ _ _) (mI_up (m_X11_count hm)) (cwV 1 X.1.2.2.2.2 gZ_law_X11_count rfl rfl rfl (by decide +kernel) ⟨Nat.le_of_ble_eq_true rfl, Nat.le_of_ble_eq_true rfl⟩) rfl mm0 (mE_0 cy Am τ) rfl rfl (Nat.le_of_ble_eq_true rfl) ⟨Nat.le_trans (Nat.add_le_add_left (by decide : 1 ≤ 4) k) hk, Nat.le_trans (Nat.add_le_add_left (by decide : 6 ≤ 24) n) hn⟩ dL_law_1416 ?_
    refine g_perm (LW_perm cy Ac aK Am qo qd σ τ' f9 fd).symm ?_
    refine g_istore X dL_law_1419 (by decide) (lv' := [(7, .int v), (6, .int kq), (0, .ref b), (1, .ref (Ac 0)), (2, .ref (Am 0)), (3, .ref qo), (4, .ref qd), (5, .int i)]) rfl ?_
    refine g_aload_n X dL_law_1421 rfl 4 rfl ?_
    refine g_perm (LW_perm cy Ac aK Am qo qd σ τ' f9 fd) ?_
    refine g_callVI (AD := Am) (E := mE cy Am) (L := mLs) (As := []) X (ZL_ok _ _ _ _ _) (mI_up (m_X11_thrown (σ := τ') (r := gi τ' 10) rfl)) (cwV 0 X.1.2.2.2.2 gZ_law_X11_thrown rfl rfl rfl (by decide +kernel) ⟨Nat.le_of_ble_eq_true rfl, Nat.le_of_ble_eq_true rfl⟩) rfl mm0 (mE_0 cy Am τ') rfl rfl (Nat.le_of_ble_eq_true rfl) ⟨Nat.le_trans (Nat.add_le_add_left (by decide : 1 ≤ 4) k) hk, Nat.le_trans (Nat.add_le_add_left (by decide : 6 ≤ 24) n) hn⟩ dL_law_1422 ?_
    refine g_perm (LW_perm cy Ac aK Am qo qd σ τ' f9 fd).symm ?_
    refine g_iload X dL_law_1425 1 rfl ?_
    refine g_icmp_eq X (tgt := 1432) dL_law_1427 (by decide) (fun _ => ?_) (fun z => absurd hq z)
    refine g_iload X dL_law_1432 1 rfl ?_
    refine g_if_ne X (tgt := 1449) dL_law_1434 (by decide) (fun _ => fin) (fun z => ?_)
    refine g_aload_n X dL_law_1437 rfl 5 rfl ?_
    refine g_iconst X dL_law_1438 (v := (0 : Int32)) (by decide) ?_
    refine g_lald X 85 5 (cW_85 _ _ _ _ _) rfl (vp_in_nI (n := 0) (N := 1) (by decide) (by decide)) dL_law_1439 ?_
    have hf := hf z
    refine g_iload X dL_law_1440 0 rfl ?_
    refine g_i2l X dL_law_1442 ?_
    refine g_lcmp X dL_law_1443 ?_
    refine g_if_eq X (tgt := 1449) dL_law_1444 (by decide) (fun _ => fin) (fun z2 => absurd (show lg_cmp (f9 0) (v.toInt64) = 0 by rw [show f9 0 = v.toInt64 from hf]; exact cmp_self _) z2)
  rcases ho with ⟨x, rfl, rfl, h0⟩ | ⟨j, E9, rfl, hE, h0⟩
  · refine g_lawS (Wf := (oL cy Ac aK qo ((qd, .inl (cy 6, 1, .inr (.inr (.inr (.inl fd))))) :: wF Am (mE cy Am) mLs [] τ))) (u := (σ, fo)) (u' := (σ, (vp_updL fo 0 v.toInt64))) (As := [.ref (Ac 0), .int (xs (i + (1 : Int32)).toNatClampNeg), .ref qo]) X (ZL_ok _ _ _ _ _) (w_count_ok hl hc) (vx_cwSW 3 X.1.2.2.2.2 gZ_law_L_count rfl rfl rfl (by decide +kernel) ⟨Nat.le_of_ble_eq_true rfl, Nat.le_of_ble_eq_true rfl⟩) rfl rfl (Nat.le_of_ble_eq_true rfl) ⟨Nat.le_trans (Nat.add_le_add_left (by decide : 1 ≤ 4) k) hk, Nat.le_trans (Nat.add_le_add_left (by decide : 6 ≤ 24) n) hn⟩ dL_law_1404 (k' := (k + 1)) (n' := (n + 6)) (Nat.le_refl _) (Nat.le_refl _) rfl rfl ?_
    exact tail 0 _ h0 (fun _ => rfl)
  · match j, hE, h0 with
    | 0, hE, h0 =>
      cases hE
      refine g_lawS (Wf := (oL cy Ac aK qo ((qd, .inl (cy 6, 1, .inr (.inr (.inr (.inl fd))))) :: wF Am (mE cy Am) mLs [] τ))) (u := (σ, fo)) (u' := (σ, fo)) (As := [.ref (Ac 0), .int (xs (i + (1 : Int32)).toNatClampNeg), .ref qo]) X (ZL_ok _ _ _ _ _) (w_count_x1 hl hc) (vx_cwSW 3 X.1.2.2.2.2 gZ_law_L_count rfl rfl rfl (by decide +kernel) ⟨Nat.le_of_ble_eq_true rfl, Nat.le_of_ble_eq_true rfl⟩) rfl rfl (Nat.le_of_ble_eq_true rfl) ⟨Nat.le_trans (Nat.add_le_add_left (by decide : 1 ≤ 4) k) hk, Nat.le_trans (Nat.add_le_add_left (by decide : 6 ≤ 24) n) hn⟩ dL_law_1404 (k' := (k + 1)) (n' := (n + 6)) (Nat.le_refl _) (Nat.le_refl _) rfl rfl ?_
      exact tail 1 _ h0 (fun z => absurd z (by decide))
    | j + 1, hE, _ => exact nomatch hE
set_option maxHeartbeats 8000000 in
set_option maxRecDepth 100000 in
theorem law_c22 (X : gC (ZL aK aO aS aV aT) p s m args meth c D (cyT cy) A0 cL_law wzL_law RL 9 ret) (hl : l.stackTraces = false) (hX : va_X b L xs s s.heap) (hbl : b < s.heap.size) (hbA : ¬ A0 b) (h1 : vp_in (i + (1 : Int32)) L) (h2 : vp_in (i + (2 : Int32)) L) (h3 : vp_in (i + (3 : Int32)) L) (h4 : vp_in (i + (4 : Int32)) L) (hk : k + 4 ≤ room_1.cells) (hn : n + 24 ≤ room_1.slots) (h : REL a σ τ)
    (kk : ∀ (σ' τ' : St) (a' : AS) (fo' : Nat → Int64) (fd' : Nat → UInt64), REL a' σ' τ' → gG p l e room_1 s m args below meth c D (cyT cy) A0 9 Q (LW cy Ac aK Am qo qd σ' τ' fo' fd') (k + 4) (n + 24) 2302 [(0, .ref b), (1, .ref (Ac 0)), (2, .ref (Am 0)), (3, .ref qo), (4, .ref qd), (5, .int i)] []) : gG p l e room_1 s m args below meth c D (cyT cy) A0 9 Q (LW cy Ac aK Am qo qd σ τ fo fd) k n 1452 [(0, .ref b), (1, .ref (Ac 0)), (2, .ref (Am 0)), (3, .ref qo), (4, .ref qd), (5, .int i)] [] := by
  obtain ⟨r, v, τ', a', hc, hm, hR, ho⟩ := P_cardAt h ((xs (i + (1 : Int32)).toNatClampNeg)) ((xs (i + (2 : Int32)).toNatClampNeg)) ((xs (i + (3 : Int32)).toNatClampNeg))
  refine g_aload_n X dL_law_1452 rfl 1 rfl ?_
  refine g_aload_n X dL_law_1453 rfl 0 rfl ?_
  refine g_iload X dL_law_1454 5 rfl ?_
  refine g_iconst X dL_law_1456 (v := (1 : Int32)) (by decide) ?_
  refine g_iadd X dL_law_1457 ?_
  refine g_scld X hX hbl hbA h1 dL_law_1458 ?_
  refine g_aload_n X dL_law_1459 rfl 0 rfl ?_
  refine g_iload X dL_law_1460 5 rfl ?_
  refine g_iconst X dL_law_1462 (v := (2 : Int32)) (by decide) ?_
  refine g_iadd X dL_law_1463 ?_
  refine g_scld X hX hbl hbA h2 dL_law_1464 ?_
  refine g_aload_n X dL_law_1465 rfl 0 rfl ?_
  refine g_iload X dL_law_1466 5 rfl ?_
  refine g_iconst X dL_law_1468 (v := (3 : Int32)) (by decide) ?_
  refine g_iadd X dL_law_1469 ?_
  refine g_scld X hX hbl hbA h3 dL_law_1470 ?_
  refine g_aload_n X dL_law_1471 rfl 3 rfl ?_
  have tail : ∀ (kq : Int32) (f9 : Nat → Int64), gi τ' 10 = kq → (kq = 0 → f9 0 = v.toInt64) → gG p l e room_1 s m args below meth c D (cyT cy) A0 9 Q (LW cy Ac aK Am qo qd σ τ f9 fd) (k + 3) (n + 18) 1475 [(0, .ref b), (1, .ref (Ac 0)), (2, .ref (Am 0)), (3, .ref qo), (4, .ref qd), (5, .int i)] [.int kq] := by
    intro kq f9 hq hf
    have fin : gG p l e room_1 s m args below meth c D (cyT cy) A0 9 Q (LW cy Ac aK Am qo qd σ τ' f9 fd) (k + 3) (n + 18) 1529 [(7, .int v), (6, .int kq), (0, .ref b), (1, .ref (Ac 0)), (2, .ref (Am 0)), (3, .ref qo), (4, .ref qd), (5, .int i)] [] := g_goto X (tgt := 2302) dL_law_1529 (by decide) (g_sub [2, 3, 4, 5, 6, 7] rfl (g_wid (Nat.add_le_add_left (by decide) k) (Nat.add_le_add_left (by decide) n) (kk _ _ _ _ _ hR)))
    refine g_istore X dL_law_1475 (by decide) (lv' := [(6, .int kq), (0, .ref b), (1, .ref (Ac 0)), (2, .ref (Am 0)), (3, .ref qo), (4, .ref qd), (5, .int i)]) rfl ?_
    refine g_aload_n X dL_law_1477 rfl 3 rfl ?_
    refine g_aload_n X dL_law_1478 rfl 1 rfl ?_
    refine g_iload X dL_law_1479 6 rfl ?_
    refine g_iconst X dL_law_1481 (v := (1 : Int32)) (by decide) ?_
    refine g_iadd X dL_law_1482 ?_
    refine g_scld X hX hbl hbA h1 dL_law_1483 ?_
    refine g_aload_n X dL_law_1484 rfl 1 rfl ?_
    refine g_iload X dL_law_1485 6 rfl ?_
    refine g_iconst X dL_law_1487 (v := (2 : Int32)) (by decide) ?_
    refine g_iadd X dL_law_1488 ?_
    refine g_scld X hX hbl hbA h2 dL_law_1489 ?_
    refine g_aload_n X dL_law_1490 rfl 1 rfl ?_
    refine g_iload X dL_law_1491 6 rfl ?_
    refine g_iconst X dL_law_1493 (v := (3 : Int32)) (by decide) ?_
    refine g_iadd X dL_law_1494 ?_
    refine g_scld X hX hbl hbA h3 dL_law_1495 ?_
    refine g_perm (LW_perm cy Ac aK Am qo qd σ τ f9 fd) ?_
    refine g_callVI (AD := Am) (E := mE cy Am) (L := mLs) (As := [.int (xs (i + (1 : Int32)).toNatClampNeg), .int (xs (i + (2 : Int32)).toNatClampNeg), .int (xs (i + (3 : Int32)).toNatClampNeg)]) X (ZL_ok _ _ _ _ _) (mI_up (m_X11_cardAt hm)) (cwV 3 X.1.2.2.2.2 gZ_law_X11_cardAt rfl rfl rfl (by decide +kernel) ⟨Nat.le_of_ble_eq_true rfl, Nat.le_of_ble_eq_true rfl⟩) rfl mm0 (mE_0 cy Am τ) rfl rfl (Nat.le_of_ble_eq_true rfl) ⟨Nat.le_trans (Nat.add_le_add_left (by decide : 3 ≤ 4) k) hk, Nat.le_trans (Nat.add_le_add_left (by decide : 18 ≤ 24) n) hn⟩ dL_law_1496 ?_
    refine g_perm (LW_perm cy Ac aK Am qo qd σ τ' f9 fd).symm ?_
    refine g_istore X dL_law_1499 (by decide) (lv' := [(7, .int v), (6, .int kq), (0, .ref b), (1, .ref (Ac 0)), (2, .ref (Am 0)), (3, .ref qo), (4, .ref qd), (5, .int i)]) rfl ?_
    refine g_aload_n X dL_law_1501 rfl 4 rfl ?_
    refine g_perm (LW_perm cy Ac aK Am qo qd σ τ' f9 fd) ?_
    refine g_callVI (AD := Am) (E := mE cy Am) (L := mLs) (As := []) X (ZL_ok _ _ _ _ _) (mI_up (m_X11_thrown (σ := τ') (r := gi τ' 10) rfl)) (cwV 0 X.1.2.2.2.2 gZ_law_X11_thrown rfl rfl rfl (by decide +kernel) ⟨Nat.le_of_ble_eq_true rfl, Nat.le_of_ble_eq_true rfl⟩) rfl mm0 (mE_0 cy Am τ') rfl rfl (Nat.le_of_ble_eq_true rfl) ⟨Nat.le_trans (Nat.add_le_add_left (by decide : 3 ≤ 4) k) hk, Nat.le_trans (Nat.add_le_add_left (by decide : 18 ≤ 24) n) hn⟩ dL_law_1502 ?_
    refine g_perm (LW_perm cy Ac aK Am qo qd σ τ' f9 fd).symm ?_
    refine g_iload X dL_law_1505 1 rfl ?_
    refine g_icmp_eq X (tgt := 1512) dL_law_1507 (by decide) (fun _ => ?_) (fun z => absurd hq z)
    refine g_iload X dL_law_1512 1 rfl ?_
    refine g_if_ne X (tgt := 1529) dL_law_1514 (by decide) (fun _ => fin) (fun z => ?_)
    refine g_aload_n X dL_law_1517 rfl 5 rfl ?_
    refine g_iconst X dL_law_1518 (v := (0 : Int32)) (by decide) ?_
    refine g_lald X 85 5 (cW_85 _ _ _ _ _) rfl (vp_in_nI (n := 0) (N := 1) (by decide) (by decide)) dL_law_1519 ?_
    have hf := hf z
    refine g_iload X dL_law_1520 0 rfl ?_
    refine g_i2l X dL_law_1522 ?_
    refine g_lcmp X dL_law_1523 ?_
    refine g_if_eq X (tgt := 1529) dL_law_1524 (by decide) (fun _ => fin) (fun z2 => absurd (show lg_cmp (f9 0) (v.toInt64) = 0 by rw [show f9 0 = v.toInt64 from hf]; exact cmp_self _) z2)
  rcases ho with ⟨x, rfl, rfl, h0⟩ | ⟨j, E9, rfl, hE, h0⟩
  · refine g_lawS (Wf := (oL cy Ac aK qo ((qd, .inl (cy 6, 1, .inr (.inr (.inr (.inl fd))))) :: wF Am (mE cy Am) mLs [] τ))) (u := (σ, fo)) (u' := (σ, (vp_updL fo 0 v.toInt64))) (As := [.ref (Ac 0), .int (xs (i + (1 : Int32)).toNatClampNeg), .int (xs (i + (2 : Int32)).toNatClampNeg), .int (xs (i + (3 : Int32)).toNatClampNeg), .ref qo]) X (ZL_ok _ _ _ _ _) (w_cardAt_ok hl hc) (vx_cwSW 5 X.1.2.2.2.2 gZ_law_L_cardAt rfl rfl rfl (by decide +kernel) ⟨Nat.le_of_ble_eq_true rfl, Nat.le_of_ble_eq_true rfl⟩) rfl rfl (Nat.le_of_ble_eq_true rfl) ⟨Nat.le_trans (Nat.add_le_add_left (by decide : 3 ≤ 4) k) hk, Nat.le_trans (Nat.add_le_add_left (by decide : 18 ≤ 24) n) hn⟩ dL_law_1472 (k' := (k + 3)) (n' := (n + 18)) (Nat.le_refl _) (Nat.le_refl _) rfl rfl ?_
    exact tail 0 _ h0 (fun _ => rfl)
  · match j, hE, h0 with
    | 0, hE, h0 =>
      cases hE
      refine g_lawS (Wf := (oL cy Ac aK qo ((qd, .inl (cy 6, 1, .inr (.inr (.inr (.inl fd))))) :: wF Am (mE cy Am) mLs [] τ))) (u := (σ, fo)) (u' := (σ, fo)) (As := [.ref (Ac 0), .int (xs (i + (1 : Int32)).toNatClampNeg), .int (xs (i + (2 : Int32)).toNatClampNeg), .int (xs (i + (3 : Int32)).toNatClampNeg), .ref qo]) X (ZL_ok _ _ _ _ _) (w_cardAt_x1 hl hc) (vx_cwSW 5 X.1.2.2.2.2 gZ_law_L_cardAt rfl rfl rfl (by decide +kernel) ⟨Nat.le_of_ble_eq_true rfl, Nat.le_of_ble_eq_true rfl⟩) rfl rfl (Nat.le_of_ble_eq_true rfl) ⟨Nat.le_trans (Nat.add_le_add_left (by decide : 3 ≤ 4) k) hk, Nat.le_trans (Nat.add_le_add_left (by decide : 18 ≤ 24) n) hn⟩ dL_law_1472 (k' := (k + 3)) (n' := (n + 18)) (Nat.le_refl _) (Nat.le_refl _) rfl rfl ?_
      exact tail 1 _ h0 (fun z => absurd z (by decide))
    | 1, hE, h0 =>
      cases hE
      refine g_lawS (Wf := (oL cy Ac aK qo ((qd, .inl (cy 6, 1, .inr (.inr (.inr (.inl fd))))) :: wF Am (mE cy Am) mLs [] τ))) (u := (σ, fo)) (u' := (σ, fo)) (As := [.ref (Ac 0), .int (xs (i + (1 : Int32)).toNatClampNeg), .int (xs (i + (2 : Int32)).toNatClampNeg), .int (xs (i + (3 : Int32)).toNatClampNeg), .ref qo]) X (ZL_ok _ _ _ _ _) (w_cardAt_x2 hl hc) (vx_cwSW 5 X.1.2.2.2.2 gZ_law_L_cardAt rfl rfl rfl (by decide +kernel) ⟨Nat.le_of_ble_eq_true rfl, Nat.le_of_ble_eq_true rfl⟩) rfl rfl (Nat.le_of_ble_eq_true rfl) ⟨Nat.le_trans (Nat.add_le_add_left (by decide : 3 ≤ 4) k) hk, Nat.le_trans (Nat.add_le_add_left (by decide : 18 ≤ 24) n) hn⟩ dL_law_1472 (k' := (k + 3)) (n' := (n + 18)) (Nat.le_refl _) (Nat.le_refl _) rfl rfl ?_
      exact tail 2 _ h0 (fun z => absurd z (by decide))
    | j + 2, hE, _ => exact nomatch hE
set_option maxHeartbeats 8000000 in
set_option maxRecDepth 100000 in
theorem law_c23 (X : gC (ZL aK aO aS aV aT) p s m args meth c D (cyT cy) A0 cL_law wzL_law RL 9 ret) (hl : l.stackTraces = false) (hX : va_X b L xs s s.heap) (hbl : b < s.heap.size) (hbA : ¬ A0 b) (h1 : vp_in (i + (1 : Int32)) L) (h2 : vp_in (i + (2 : Int32)) L) (h3 : vp_in (i + (3 : Int32)) L) (h4 : vp_in (i + (4 : Int32)) L) (hk : k + 4 ≤ room_1.cells) (hn : n + 24 ≤ room_1.slots) (h : REL a σ τ)
    (kk : ∀ (σ' τ' : St) (a' : AS) (fo' : Nat → Int64) (fd' : Nat → UInt64), REL a' σ' τ' → gG p l e room_1 s m args below meth c D (cyT cy) A0 9 Q (LW cy Ac aK Am qo qd σ' τ' fo' fd') (k + 4) (n + 24) 2302 [(0, .ref b), (1, .ref (Ac 0)), (2, .ref (Am 0)), (3, .ref qo), (4, .ref qd), (5, .int i)] []) : gG p l e room_1 s m args below meth c D (cyT cy) A0 9 Q (LW cy Ac aK Am qo qd σ τ fo fd) k n 1532 [(0, .ref b), (1, .ref (Ac 0)), (2, .ref (Am 0)), (3, .ref qo), (4, .ref qd), (5, .int i)] [] := by
  obtain ⟨r, v, τ', a', hc, hm, hR, ho⟩ := P_placeOf h ((xs (i + (1 : Int32)).toNatClampNeg)) ((xs (i + (2 : Int32)).toNatClampNeg))
  refine g_aload_n X dL_law_1532 rfl 1 rfl ?_
  refine g_aload_n X dL_law_1533 rfl 0 rfl ?_
  refine g_iload X dL_law_1534 5 rfl ?_
  refine g_iconst X dL_law_1536 (v := (1 : Int32)) (by decide) ?_
  refine g_iadd X dL_law_1537 ?_
  refine g_scld X hX hbl hbA h1 dL_law_1538 ?_
  refine g_aload_n X dL_law_1539 rfl 0 rfl ?_
  refine g_iload X dL_law_1540 5 rfl ?_
  refine g_iconst X dL_law_1542 (v := (2 : Int32)) (by decide) ?_
  refine g_iadd X dL_law_1543 ?_
  refine g_scld X hX hbl hbA h2 dL_law_1544 ?_
  refine g_aload_n X dL_law_1545 rfl 3 rfl ?_
  have tail : ∀ (kq : Int32) (f9 : Nat → Int64), gi τ' 10 = kq → (kq = 0 → f9 0 = v.toInt64) → gG p l e room_1 s m args below meth c D (cyT cy) A0 9 Q (LW cy Ac aK Am qo qd σ τ f9 fd) (k + 1) (n + 6) 1549 [(0, .ref b), (1, .ref (Ac 0)), (2, .ref (Am 0)), (3, .ref qo), (4, .ref qd), (5, .int i)] [.int kq] := by
    intro kq f9 hq hf
    have fin : gG p l e room_1 s m args below meth c D (cyT cy) A0 9 Q (LW cy Ac aK Am qo qd σ τ' f9 fd) (k + 1) (n + 6) 1597 [(7, .int v), (6, .int kq), (0, .ref b), (1, .ref (Ac 0)), (2, .ref (Am 0)), (3, .ref qo), (4, .ref qd), (5, .int i)] [] := g_goto X (tgt := 2302) dL_law_1597 (by decide) (g_sub [2, 3, 4, 5, 6, 7] rfl (g_wid (Nat.add_le_add_left (by decide) k) (Nat.add_le_add_left (by decide) n) (kk _ _ _ _ _ hR)))
    refine g_istore X dL_law_1549 (by decide) (lv' := [(6, .int kq), (0, .ref b), (1, .ref (Ac 0)), (2, .ref (Am 0)), (3, .ref qo), (4, .ref qd), (5, .int i)]) rfl ?_
    refine g_aload_n X dL_law_1551 rfl 3 rfl ?_
    refine g_aload_n X dL_law_1552 rfl 1 rfl ?_
    refine g_iload X dL_law_1553 6 rfl ?_
    refine g_iconst X dL_law_1555 (v := (1 : Int32)) (by decide) ?_
    refine g_iadd X dL_law_1556 ?_
    refine g_scld X hX hbl hbA h1 dL_law_1557 ?_
    refine g_aload_n X dL_law_1558 rfl 1 rfl ?_
    refine g_iload X dL_law_1559 6 rfl ?_
    refine g_iconst X dL_law_1561 (v := (2 : Int32)) (by decide) ?_
    refine g_iadd X dL_law_1562 ?_
    refine g_scld X hX hbl hbA h2 dL_law_1563 ?_
    refine g_perm (LW_perm cy Ac aK Am qo qd σ τ f9 fd) ?_
    refine g_callVI (AD := Am) (E := mE cy Am) (L := mLs) (As := [.int (xs (i + (1 : Int32)).toNatClampNeg), .int (xs (i + (2 : Int32)).toNatClampNeg)]) X (ZL_ok _ _ _ _ _) (mI_up (m_X11_placeOf hm)) (cwV 2 X.1.2.2.2.2 gZ_law_X11_placeOf rfl rfl rfl (by decide +kernel) ⟨Nat.le_of_ble_eq_true rfl, Nat.le_of_ble_eq_true rfl⟩) rfl mm0 (mE_0 cy Am τ) rfl rfl (Nat.le_of_ble_eq_true rfl) ⟨Nat.le_trans (Nat.add_le_add_left (by decide : 1 ≤ 4) k) hk, Nat.le_trans (Nat.add_le_add_left (by decide : 6 ≤ 24) n) hn⟩ dL_law_1564 ?_
    refine g_perm (LW_perm cy Ac aK Am qo qd σ τ' f9 fd).symm ?_
    refine g_istore X dL_law_1567 (by decide) (lv' := [(7, .int v), (6, .int kq), (0, .ref b), (1, .ref (Ac 0)), (2, .ref (Am 0)), (3, .ref qo), (4, .ref qd), (5, .int i)]) rfl ?_
    refine g_aload_n X dL_law_1569 rfl 4 rfl ?_
    refine g_perm (LW_perm cy Ac aK Am qo qd σ τ' f9 fd) ?_
    refine g_callVI (AD := Am) (E := mE cy Am) (L := mLs) (As := []) X (ZL_ok _ _ _ _ _) (mI_up (m_X11_thrown (σ := τ') (r := gi τ' 10) rfl)) (cwV 0 X.1.2.2.2.2 gZ_law_X11_thrown rfl rfl rfl (by decide +kernel) ⟨Nat.le_of_ble_eq_true rfl, Nat.le_of_ble_eq_true rfl⟩) rfl mm0 (mE_0 cy Am τ') rfl rfl (Nat.le_of_ble_eq_true rfl) ⟨Nat.le_trans (Nat.add_le_add_left (by decide : 1 ≤ 4) k) hk, Nat.le_trans (Nat.add_le_add_left (by decide : 6 ≤ 24) n) hn⟩ dL_law_1570 ?_
    refine g_perm (LW_perm cy Ac aK Am qo qd σ τ' f9 fd).symm ?_
    refine g_iload X dL_law_1573 1 rfl ?_
    refine g_icmp_eq X (tgt := 1580) dL_law_1575 (by decide) (fun _ => ?_) (fun z => absurd hq z)
    refine g_iload X dL_law_1580 1 rfl ?_
    refine g_if_ne X (tgt := 1597) dL_law_1582 (by decide) (fun _ => fin) (fun z => ?_)
    refine g_aload_n X dL_law_1585 rfl 5 rfl ?_
    refine g_iconst X dL_law_1586 (v := (0 : Int32)) (by decide) ?_
    refine g_lald X 85 5 (cW_85 _ _ _ _ _) rfl (vp_in_nI (n := 0) (N := 1) (by decide) (by decide)) dL_law_1587 ?_
    have hf := hf z
    refine g_iload X dL_law_1588 0 rfl ?_
    refine g_i2l X dL_law_1590 ?_
    refine g_lcmp X dL_law_1591 ?_
    refine g_if_eq X (tgt := 1597) dL_law_1592 (by decide) (fun _ => fin) (fun z2 => absurd (show lg_cmp (f9 0) (v.toInt64) = 0 by rw [show f9 0 = v.toInt64 from hf]; exact cmp_self _) z2)
  rcases ho with ⟨x, rfl, rfl, h0⟩ | ⟨j, E9, rfl, hE, h0⟩
  · refine g_lawS (Wf := (oL cy Ac aK qo ((qd, .inl (cy 6, 1, .inr (.inr (.inr (.inl fd))))) :: wF Am (mE cy Am) mLs [] τ))) (u := (σ, fo)) (u' := (σ, (vp_updL fo 0 v.toInt64))) (As := [.ref (Ac 0), .int (xs (i + (1 : Int32)).toNatClampNeg), .int (xs (i + (2 : Int32)).toNatClampNeg), .ref qo]) X (ZL_ok _ _ _ _ _) (w_placeOf_ok hl hc) (vx_cwSW 4 X.1.2.2.2.2 gZ_law_L_placeOf rfl rfl rfl (by decide +kernel) ⟨Nat.le_of_ble_eq_true rfl, Nat.le_of_ble_eq_true rfl⟩) rfl rfl (Nat.le_of_ble_eq_true rfl) ⟨Nat.le_trans (Nat.add_le_add_left (by decide : 1 ≤ 4) k) hk, Nat.le_trans (Nat.add_le_add_left (by decide : 6 ≤ 24) n) hn⟩ dL_law_1546 (k' := (k + 1)) (n' := (n + 6)) (Nat.le_refl _) (Nat.le_refl _) rfl rfl ?_
    exact tail 0 _ h0 (fun _ => rfl)
  · match j, hE, h0 with
    | 0, hE, h0 =>
      cases hE
      refine g_lawS (Wf := (oL cy Ac aK qo ((qd, .inl (cy 6, 1, .inr (.inr (.inr (.inl fd))))) :: wF Am (mE cy Am) mLs [] τ))) (u := (σ, fo)) (u' := (σ, fo)) (As := [.ref (Ac 0), .int (xs (i + (1 : Int32)).toNatClampNeg), .int (xs (i + (2 : Int32)).toNatClampNeg), .ref qo]) X (ZL_ok _ _ _ _ _) (w_placeOf_x1 hl hc) (vx_cwSW 4 X.1.2.2.2.2 gZ_law_L_placeOf rfl rfl rfl (by decide +kernel) ⟨Nat.le_of_ble_eq_true rfl, Nat.le_of_ble_eq_true rfl⟩) rfl rfl (Nat.le_of_ble_eq_true rfl) ⟨Nat.le_trans (Nat.add_le_add_left (by decide : 1 ≤ 4) k) hk, Nat.le_trans (Nat.add_le_add_left (by decide : 6 ≤ 24) n) hn⟩ dL_law_1546 (k' := (k + 1)) (n' := (n + 6)) (Nat.le_refl _) (Nat.le_refl _) rfl rfl ?_
      exact tail 1 _ h0 (fun z => absurd z (by decide))
    | j + 1, hE, _ => exact nomatch hE
set_option maxHeartbeats 8000000 in
set_option maxRecDepth 100000 in
theorem law_c24 (X : gC (ZL aK aO aS aV aT) p s m args meth c D (cyT cy) A0 cL_law wzL_law RL 9 ret) (hl : l.stackTraces = false) (hX : va_X b L xs s s.heap) (hbl : b < s.heap.size) (hbA : ¬ A0 b) (h1 : vp_in (i + (1 : Int32)) L) (h2 : vp_in (i + (2 : Int32)) L) (h3 : vp_in (i + (3 : Int32)) L) (h4 : vp_in (i + (4 : Int32)) L) (hk : k + 4 ≤ room_1.cells) (hn : n + 24 ≤ room_1.slots) (h : REL a σ τ)
    (kk : ∀ (σ' τ' : St) (a' : AS) (fo' : Nat → Int64) (fd' : Nat → UInt64), REL a' σ' τ' → gG p l e room_1 s m args below meth c D (cyT cy) A0 9 Q (LW cy Ac aK Am qo qd σ' τ' fo' fd') (k + 4) (n + 24) 2302 [(0, .ref b), (1, .ref (Ac 0)), (2, .ref (Am 0)), (3, .ref qo), (4, .ref qd), (5, .int i)] []) : gG p l e room_1 s m args below meth c D (cyT cy) A0 9 Q (LW cy Ac aK Am qo qd σ τ fo fd) k n 1600 [(0, .ref b), (1, .ref (Ac 0)), (2, .ref (Am 0)), (3, .ref qo), (4, .ref qd), (5, .int i)] [] := by
  obtain ⟨r, v, τ', a', hc, hm, hR, ho⟩ := P_placeFor h ((xs (i + (1 : Int32)).toNatClampNeg)) ((xs (i + (2 : Int32)).toNatClampNeg))
  refine g_aload_n X dL_law_1600 rfl 1 rfl ?_
  refine g_aload_n X dL_law_1601 rfl 0 rfl ?_
  refine g_iload X dL_law_1602 5 rfl ?_
  refine g_iconst X dL_law_1604 (v := (1 : Int32)) (by decide) ?_
  refine g_iadd X dL_law_1605 ?_
  refine g_scld X hX hbl hbA h1 dL_law_1606 ?_
  refine g_aload_n X dL_law_1607 rfl 0 rfl ?_
  refine g_iload X dL_law_1608 5 rfl ?_
  refine g_iconst X dL_law_1610 (v := (2 : Int32)) (by decide) ?_
  refine g_iadd X dL_law_1611 ?_
  refine g_scld X hX hbl hbA h2 dL_law_1612 ?_
  refine g_aload_n X dL_law_1613 rfl 3 rfl ?_
  have tail : ∀ (kq : Int32) (f9 : Nat → Int64), gi τ' 10 = kq → (kq = 0 → f9 0 = v.toInt64) → gG p l e room_1 s m args below meth c D (cyT cy) A0 9 Q (LW cy Ac aK Am qo qd σ τ f9 fd) (k + 2) (n + 12) 1617 [(0, .ref b), (1, .ref (Ac 0)), (2, .ref (Am 0)), (3, .ref qo), (4, .ref qd), (5, .int i)] [.int kq] := by
    intro kq f9 hq hf
    have fin : gG p l e room_1 s m args below meth c D (cyT cy) A0 9 Q (LW cy Ac aK Am qo qd σ τ' f9 fd) (k + 2) (n + 12) 1665 [(7, .int v), (6, .int kq), (0, .ref b), (1, .ref (Ac 0)), (2, .ref (Am 0)), (3, .ref qo), (4, .ref qd), (5, .int i)] [] := g_goto X (tgt := 2302) dL_law_1665 (by decide) (g_sub [2, 3, 4, 5, 6, 7] rfl (g_wid (Nat.add_le_add_left (by decide) k) (Nat.add_le_add_left (by decide) n) (kk _ _ _ _ _ hR)))
    refine g_istore X dL_law_1617 (by decide) (lv' := [(6, .int kq), (0, .ref b), (1, .ref (Ac 0)), (2, .ref (Am 0)), (3, .ref qo), (4, .ref qd), (5, .int i)]) rfl ?_
    refine g_aload_n X dL_law_1619 rfl 3 rfl ?_
    refine g_aload_n X dL_law_1620 rfl 1 rfl ?_
    refine g_iload X dL_law_1621 6 rfl ?_
    refine g_iconst X dL_law_1623 (v := (1 : Int32)) (by decide) ?_
    refine g_iadd X dL_law_1624 ?_
    refine g_scld X hX hbl hbA h1 dL_law_1625 ?_
    refine g_aload_n X dL_law_1626 rfl 1 rfl ?_
    refine g_iload X dL_law_1627 6 rfl ?_
    refine g_iconst X dL_law_1629 (v := (2 : Int32)) (by decide) ?_
    refine g_iadd X dL_law_1630 ?_
    refine g_scld X hX hbl hbA h2 dL_law_1631 ?_
    refine g_perm (LW_perm cy Ac aK Am qo qd σ τ f9 fd) ?_
    refine g_callVI (AD := Am) (E := mE cy Am) (L := mLs) (As := [.int (xs (i + (1 : Int32)).toNatClampNeg), .int (xs (i + (2 : Int32)).toNatClampNeg)]) X (ZL_ok _ _ _ _ _) (mI_up (m_X11_placeFor hm)) (cwV 2 X.1.2.2.2.2 gZ_law_X11_placeFor rfl rfl rfl (by decide +kernel) ⟨Nat.le_of_ble_eq_true rfl, Nat.le_of_ble_eq_true rfl⟩) rfl mm0 (mE_0 cy Am τ) rfl rfl (Nat.le_of_ble_eq_true rfl) ⟨Nat.le_trans (Nat.add_le_add_left (by decide : 2 ≤ 4) k) hk, Nat.le_trans (Nat.add_le_add_left (by decide : 12 ≤ 24) n) hn⟩ dL_law_1632 ?_
    refine g_perm (LW_perm cy Ac aK Am qo qd σ τ' f9 fd).symm ?_
    refine g_istore X dL_law_1635 (by decide) (lv' := [(7, .int v), (6, .int kq), (0, .ref b), (1, .ref (Ac 0)), (2, .ref (Am 0)), (3, .ref qo), (4, .ref qd), (5, .int i)]) rfl ?_
    refine g_aload_n X dL_law_1637 rfl 4 rfl ?_
    refine g_perm (LW_perm cy Ac aK Am qo qd σ τ' f9 fd) ?_
    refine g_callVI (AD := Am) (E := mE cy Am) (L := mLs) (As := []) X (ZL_ok _ _ _ _ _) (mI_up (m_X11_thrown (σ := τ') (r := gi τ' 10) rfl)) (cwV 0 X.1.2.2.2.2 gZ_law_X11_thrown rfl rfl rfl (by decide +kernel) ⟨Nat.le_of_ble_eq_true rfl, Nat.le_of_ble_eq_true rfl⟩) rfl mm0 (mE_0 cy Am τ') rfl rfl (Nat.le_of_ble_eq_true rfl) ⟨Nat.le_trans (Nat.add_le_add_left (by decide : 2 ≤ 4) k) hk, Nat.le_trans (Nat.add_le_add_left (by decide : 12 ≤ 24) n) hn⟩ dL_law_1638 ?_
    refine g_perm (LW_perm cy Ac aK Am qo qd σ τ' f9 fd).symm ?_
    refine g_iload X dL_law_1641 1 rfl ?_
    refine g_icmp_eq X (tgt := 1648) dL_law_1643 (by decide) (fun _ => ?_) (fun z => absurd hq z)
    refine g_iload X dL_law_1648 1 rfl ?_
    refine g_if_ne X (tgt := 1665) dL_law_1650 (by decide) (fun _ => fin) (fun z => ?_)
    refine g_aload_n X dL_law_1653 rfl 5 rfl ?_
    refine g_iconst X dL_law_1654 (v := (0 : Int32)) (by decide) ?_
    refine g_lald X 85 5 (cW_85 _ _ _ _ _) rfl (vp_in_nI (n := 0) (N := 1) (by decide) (by decide)) dL_law_1655 ?_
    have hf := hf z
    refine g_iload X dL_law_1656 0 rfl ?_
    refine g_i2l X dL_law_1658 ?_
    refine g_lcmp X dL_law_1659 ?_
    refine g_if_eq X (tgt := 1665) dL_law_1660 (by decide) (fun _ => fin) (fun z2 => absurd (show lg_cmp (f9 0) (v.toInt64) = 0 by rw [show f9 0 = v.toInt64 from hf]; exact cmp_self _) z2)
  rcases ho with ⟨x, rfl, rfl, h0⟩ | ⟨j, E9, rfl, hE, h0⟩
  · refine g_lawS (Wf := (oL cy Ac aK qo ((qd, .inl (cy 6, 1, .inr (.inr (.inr (.inl fd))))) :: wF Am (mE cy Am) mLs [] τ))) (u := (σ, fo)) (u' := (σ, (vp_updL fo 0 v.toInt64))) (As := [.ref (Ac 0), .int (xs (i + (1 : Int32)).toNatClampNeg), .int (xs (i + (2 : Int32)).toNatClampNeg), .ref qo]) X (ZL_ok _ _ _ _ _) (w_placeFor_ok hl hc) (vx_cwSW 4 X.1.2.2.2.2 gZ_law_L_placeFor rfl rfl rfl (by decide +kernel) ⟨Nat.le_of_ble_eq_true rfl, Nat.le_of_ble_eq_true rfl⟩) rfl rfl (Nat.le_of_ble_eq_true rfl) ⟨Nat.le_trans (Nat.add_le_add_left (by decide : 2 ≤ 4) k) hk, Nat.le_trans (Nat.add_le_add_left (by decide : 12 ≤ 24) n) hn⟩ dL_law_1614 (k' := (k + 2)) (n' := (n + 12)) (Nat.le_refl _) (Nat.le_refl _) rfl rfl ?_
    exact tail 0 _ h0 (fun _ => rfl)
  · match j, hE, h0 with
    | 0, hE, h0 =>
      cases hE
      refine g_lawS (Wf := (oL cy Ac aK qo ((qd, .inl (cy 6, 1, .inr (.inr (.inr (.inl fd))))) :: wF Am (mE cy Am) mLs [] τ))) (u := (σ, fo)) (u' := (σ, fo)) (As := [.ref (Ac 0), .int (xs (i + (1 : Int32)).toNatClampNeg), .int (xs (i + (2 : Int32)).toNatClampNeg), .ref qo]) X (ZL_ok _ _ _ _ _) (w_placeFor_x1 hl hc) (vx_cwSW 4 X.1.2.2.2.2 gZ_law_L_placeFor rfl rfl rfl (by decide +kernel) ⟨Nat.le_of_ble_eq_true rfl, Nat.le_of_ble_eq_true rfl⟩) rfl rfl (Nat.le_of_ble_eq_true rfl) ⟨Nat.le_trans (Nat.add_le_add_left (by decide : 2 ≤ 4) k) hk, Nat.le_trans (Nat.add_le_add_left (by decide : 12 ≤ 24) n) hn⟩ dL_law_1614 (k' := (k + 2)) (n' := (n + 12)) (Nat.le_refl _) (Nat.le_refl _) rfl rfl ?_
      exact tail 1 _ h0 (fun z => absurd z (by decide))
    | 1, hE, h0 =>
      cases hE
      refine g_lawS (Wf := (oL cy Ac aK qo ((qd, .inl (cy 6, 1, .inr (.inr (.inr (.inl fd))))) :: wF Am (mE cy Am) mLs [] τ))) (u := (σ, fo)) (u' := (σ, fo)) (As := [.ref (Ac 0), .int (xs (i + (1 : Int32)).toNatClampNeg), .int (xs (i + (2 : Int32)).toNatClampNeg), .ref qo]) X (ZL_ok _ _ _ _ _) (w_placeFor_x2 hl hc) (vx_cwSW 4 X.1.2.2.2.2 gZ_law_L_placeFor rfl rfl rfl (by decide +kernel) ⟨Nat.le_of_ble_eq_true rfl, Nat.le_of_ble_eq_true rfl⟩) rfl rfl (Nat.le_of_ble_eq_true rfl) ⟨Nat.le_trans (Nat.add_le_add_left (by decide : 2 ≤ 4) k) hk, Nat.le_trans (Nat.add_le_add_left (by decide : 12 ≤ 24) n) hn⟩ dL_law_1614 (k' := (k + 2)) (n' := (n + 12)) (Nat.le_refl _) (Nat.le_refl _) rfl rfl ?_
      exact tail 2 _ h0 (fun z => absurd z (by decide))
    | j + 2, hE, _ => exact nomatch hE
end LC
