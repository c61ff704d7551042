section LC
variable {p : Program} {l : Launch} {e : Env} {s : State} {m : MethodId} {args : Array Value} {below : List Frame} {meth : Method} {c : Code} {D : va_G} {A0 : Nat → Prop} {Q : State → Prop} {cy : Nat → ClassId} {Ac aK Am aO aS aV aT : Nat → Nat} {qo qd b L k n : Nat} {xs : Nat → Int32} {i : Int32} {fo : Nat → Int64} {fd : Nat → UInt64} {a : AS} {σ τ : St}
set_option maxHeartbeats 8000000 in
set_option maxRecDepth 100000 in
theorem law_c30 (X : gC (ZL aK aO aS aV aT) p s m args meth c D (cyT cy) A0 cL_law wzL_law RL 9 ret) (hl : l.stackTraces = false) (hX : va_X b L xs s s.heap) (hbl : b < s.heap.size) (hbA : ¬ A0 b) (h1 : vp_in (i + (1 : Int32)) L) (h2 : vp_in (i + (2 : Int32)) L) (h3 : vp_in (i + (3 : Int32)) L) (h4 : vp_in (i + (4 : Int32)) L) (hk : k + 4 ≤ room_1.cells) (hn : n + 24 ≤ room_1.slots) (h : REL a σ τ)
    (kk : ∀ (σ' τ' : St) (a' : AS) (fo' : Nat → Int64) (fd' : Nat → UInt64), REL a' σ' τ' → gG p l e room_1 s m args below meth c D (cyT cy) A0 9 Q (LW cy Ac aK Am qo qd σ' τ' fo' fd') (k + 4) (n + 24) 2302 [(0, .ref b), (1, .ref (Ac 0)), (2, .ref (Am 0)), (3, .ref qo), (4, .ref qd), (5, .int i)] []) : gG p l e room_1 s m args below meth c D (cyT cy) A0 9 Q (LW cy Ac aK Am qo qd σ τ fo fd) k n 1955 [(0, .ref b), (1, .ref (Ac 0)), (2, .ref (Am 0)), (3, .ref qo), (4, .ref qd), (5, .int i)] [] := by
  obtain ⟨r, v, τ', a', hc, hm, hR, ho⟩ := P_sum h ((xs (i + (1 : Int32)).toNatClampNeg))
  refine g_aload_n X dL_law_1955 rfl 1 rfl ?_
  refine g_aload_n X dL_law_1956 rfl 0 rfl ?_
  refine g_iload X dL_law_1957 5 rfl ?_
  refine g_iconst X dL_law_1959 (v := (1 : Int32)) (by decide) ?_
  refine g_iadd X dL_law_1960 ?_
  refine g_scld X hX hbl hbA h1 dL_law_1961 ?_
  refine g_aload_n X dL_law_1962 rfl 3 rfl ?_
  have tail : ∀ (kq : Int32) (f9 : Nat → Int64), gi τ' 10 = kq → (kq = 0 → f9 0 = v) → gG p l e room_1 s m args below meth c D (cyT cy) A0 9 Q (LW cy Ac aK Am qo qd σ τ f9 fd) (k + 1) (n + 6) 1966 [(0, .ref b), (1, .ref (Ac 0)), (2, .ref (Am 0)), (3, .ref qo), (4, .ref qd), (5, .int i)] [.int kq] := by
    intro kq f9 hq hf
    have fin : gG p l e room_1 s m args below meth c D (cyT cy) A0 9 Q (LW cy Ac aK Am qo qd σ τ' f9 fd) (k + 1) (n + 6) 2007 [(7, .long v), (6, .int kq), (0, .ref b), (1, .ref (Ac 0)), (2, .ref (Am 0)), (3, .ref qo), (4, .ref qd), (5, .int i)] [] := g_goto X (tgt := 2302) dL_law_2007 (by decide) (g_sub [2, 3, 4, 5, 6, 7] rfl (g_wid (Nat.add_le_add_left (by decide) k) (Nat.add_le_add_left (by decide) n) (kk _ _ _ _ _ hR)))
    refine g_istore X dL_law_1966 (by decide) (lv' := [(6, .int kq), (0, .ref b), (1, .ref (Ac 0)), (2, .ref (Am 0)), (3, .ref qo), (4, .ref qd), (5, .int i)]) rfl ?_
    refine g_aload_n X dL_law_1968 rfl 3 rfl ?_
    refine g_aload_n X dL_law_1969 rfl 1 rfl ?_
    refine g_iload X dL_law_1970 6 rfl ?_
    refine g_iconst X dL_law_1972 (v := (1 : Int32)) (by decide) ?_
    refine g_iadd X dL_law_1973 ?_
    refine g_scld X hX hbl hbA h1 dL_law_1974 ?_
    refine g_perm (LW_perm cy Ac aK Am qo qd σ τ f9 fd) ?_
    refine g_callVL (AD := Am) (E := mE cy Am) (L := mLs) (As := [.int (xs (i + (1 : Int32)).toNatClampNeg)]) X (ZL_ok _ _ _ _ _) (mL_up (m_X11_sum hm)) (cwV 1 X.1.2.2.2.2 gZ_law_X11_sum rfl rfl rfl (by decide +kernel) ⟨Nat.le_of_ble_eq_true rfl, Nat.le_of_ble_eq_true rfl⟩) rfl mm0 (mE_0 cy Am τ) rfl rfl (Nat.le_of_ble_eq_true rfl) ⟨Nat.le_trans (Nat.add_le_add_left (by decide : 1 ≤ 4) k) hk, Nat.le_trans (Nat.add_le_add_left (by decide : 6 ≤ 24) n) hn⟩ dL_law_1975 ?_
    refine g_perm (LW_perm cy Ac aK Am qo qd σ τ' f9 fd).symm ?_
    refine g_lstore X dL_law_1978 (by decide) (lv' := [(7, .long v), (6, .int kq), (0, .ref b), (1, .ref (Ac 0)), (2, .ref (Am 0)), (3, .ref qo), (4, .ref qd), (5, .int i)]) rfl ?_
    refine g_aload_n X dL_law_1980 rfl 4 rfl ?_
    refine g_perm (LW_perm cy Ac aK Am qo qd σ τ' f9 fd) ?_
    refine g_callVI (AD := Am) (E := mE cy Am) (L := mLs) (As := []) X (ZL_ok _ _ _ _ _) (mI_up (m_X11_thrown (σ := τ') (r := gi τ' 10) rfl)) (cwV 0 X.1.2.2.2.2 gZ_law_X11_thrown rfl rfl rfl (by decide +kernel) ⟨Nat.le_of_ble_eq_true rfl, Nat.le_of_ble_eq_true rfl⟩) rfl mm0 (mE_0 cy Am τ') rfl rfl (Nat.le_of_ble_eq_true rfl) ⟨Nat.le_trans (Nat.add_le_add_left (by decide : 1 ≤ 4) k) hk, Nat.le_trans (Nat.add_le_add_left (by decide : 6 ≤ 24) n) hn⟩ dL_law_1981 ?_
    refine g_perm (LW_perm cy Ac aK Am qo qd σ τ' f9 fd).symm ?_
    refine g_iload X dL_law_1984 1 rfl ?_
    refine g_icmp_eq X (tgt := 1991) dL_law_1986 (by decide) (fun _ => ?_) (fun z => absurd hq z)
    refine g_iload X dL_law_1991 1 rfl ?_
    refine g_if_ne X (tgt := 2007) dL_law_1993 (by decide) (fun _ => fin) (fun z => ?_)
    refine g_aload_n X dL_law_1996 rfl 5 rfl ?_
    refine g_iconst X dL_law_1997 (v := (0 : Int32)) (by decide) ?_
    refine g_lald X 85 5 (cW_85 _ _ _ _ _) rfl (vp_in_nI (n := 0) (N := 1) (by decide) (by decide)) dL_law_1998 ?_
    have hf := hf z
    refine g_lload X dL_law_1999 0 rfl ?_
    refine g_lcmp X dL_law_2001 ?_
    refine g_if_eq X (tgt := 2007) dL_law_2002 (by decide) (fun _ => fin) (fun z2 => absurd (show lg_cmp (f9 0) (v) = 0 by rw [show f9 0 = v from hf]; exact cmp_self _) z2)
  rcases ho with ⟨x, rfl, rfl, h0⟩ | ⟨j, E9, rfl, hE, h0⟩
  · refine g_lawS (Wf := (oL cy Ac aK qo ((qd, .inl (cy 6, 1, .inr (.inr (.inr (.inl fd))))) :: wF Am (mE cy Am) mLs [] τ))) (u := (σ, fo)) (u' := (σ, (vp_updL fo 0 v))) (As := [.ref (Ac 0), .int (xs (i + (1 : Int32)).toNatClampNeg), .ref qo]) X (ZL_ok _ _ _ _ _) (w_sum_ok hl hc) (vx_cwSW 3 X.1.2.2.2.2 gZ_law_L_sum rfl rfl rfl (by decide +kernel) ⟨Nat.le_of_ble_eq_true rfl, Nat.le_of_ble_eq_true rfl⟩) rfl rfl (Nat.le_of_ble_eq_true rfl) ⟨Nat.le_trans (Nat.add_le_add_left (by decide : 1 ≤ 4) k) hk, Nat.le_trans (Nat.add_le_add_left (by decide : 6 ≤ 24) n) hn⟩ dL_law_1963 (k' := (k + 1)) (n' := (n + 6)) (Nat.le_refl _) (Nat.le_refl _) rfl rfl ?_
    exact tail 0 _ h0 (fun _ => rfl)
  · match j, hE, h0 with
    | 0, hE, h0 =>
      cases hE
      refine g_lawS (Wf := (oL cy Ac aK qo ((qd, .inl (cy 6, 1, .inr (.inr (.inr (.inl fd))))) :: wF Am (mE cy Am) mLs [] τ))) (u := (σ, fo)) (u' := (σ, fo)) (As := [.ref (Ac 0), .int (xs (i + (1 : Int32)).toNatClampNeg), .ref qo]) X (ZL_ok _ _ _ _ _) (w_sum_x1 hl hc) (vx_cwSW 3 X.1.2.2.2.2 gZ_law_L_sum rfl rfl rfl (by decide +kernel) ⟨Nat.le_of_ble_eq_true rfl, Nat.le_of_ble_eq_true rfl⟩) rfl rfl (Nat.le_of_ble_eq_true rfl) ⟨Nat.le_trans (Nat.add_le_add_left (by decide : 1 ≤ 4) k) hk, Nat.le_trans (Nat.add_le_add_left (by decide : 6 ≤ 24) n) hn⟩ dL_law_1963 (k' := (k + 1)) (n' := (n + 6)) (Nat.le_refl _) (Nat.le_refl _) rfl rfl ?_
      exact tail 1 _ h0 (fun z => absurd z (by decide))
    | j + 1, hE, _ => exact nomatch hE
set_option maxHeartbeats 8000000 in
set_option maxRecDepth 100000 in
theorem law_c31 (X : gC (ZL aK aO aS aV aT) p s m args meth c D (cyT cy) A0 cL_law wzL_law RL 9 ret) (hl : l.stackTraces = false) (hX : va_X b L xs s s.heap) (hbl : b < s.heap.size) (hbA : ¬ A0 b) (h1 : vp_in (i + (1 : Int32)) L) (h2 : vp_in (i + (2 : Int32)) L) (h3 : vp_in (i + (3 : Int32)) L) (h4 : vp_in (i + (4 : Int32)) L) (hk : k + 4 ≤ room_1.cells) (hn : n + 24 ≤ room_1.slots) (h : REL a σ τ)
    (kk : ∀ (σ' τ' : St) (a' : AS) (fo' : Nat → Int64) (fd' : Nat → UInt64), REL a' σ' τ' → gG p l e room_1 s m args below meth c D (cyT cy) A0 9 Q (LW cy Ac aK Am qo qd σ' τ' fo' fd') (k + 4) (n + 24) 2302 [(0, .ref b), (1, .ref (Ac 0)), (2, .ref (Am 0)), (3, .ref qo), (4, .ref qd), (5, .int i)] []) : gG p l e room_1 s m args below meth c D (cyT cy) A0 9 Q (LW cy Ac aK Am qo qd σ τ fo fd) k n 2010 [(0, .ref b), (1, .ref (Ac 0)), (2, .ref (Am 0)), (3, .ref qo), (4, .ref qd), (5, .int i)] [] := by
  obtain ⟨r, v, τ', a', hc, hm, hR, ho⟩ := P_compare h ((xs (i + (1 : Int32)).toNatClampNeg)) ((xs (i + (2 : Int32)).toNatClampNeg))
  refine g_aload_n X dL_law_2010 rfl 1 rfl ?_
  refine g_aload_n X dL_law_2011 rfl 0 rfl ?_
  refine g_iload X dL_law_2012 5 rfl ?_
  refine g_iconst X dL_law_2014 (v := (1 : Int32)) (by decide) ?_
  refine g_iadd X dL_law_2015 ?_
  refine g_scld X hX hbl hbA h1 dL_law_2016 ?_
  refine g_aload_n X dL_law_2017 rfl 0 rfl ?_
  refine g_iload X dL_law_2018 5 rfl ?_
  refine g_iconst X dL_law_2020 (v := (2 : Int32)) (by decide) ?_
  refine g_iadd X dL_law_2021 ?_
  refine g_scld X hX hbl hbA h2 dL_law_2022 ?_
  refine g_aload_n X dL_law_2023 rfl 3 rfl ?_
  have tail : ∀ (kq : Int32) (f9 : Nat → Int64), gi τ' 10 = kq → (kq = 0 → f9 0 = v.toInt64) → gG p l e room_1 s m args below meth c D (cyT cy) A0 9 Q (LW cy Ac aK Am qo qd σ τ f9 fd) (k + 2) (n + 12) 2027 [(0, .ref b), (1, .ref (Ac 0)), (2, .ref (Am 0)), (3, .ref qo), (4, .ref qd), (5, .int i)] [.int kq] := by
    intro kq f9 hq hf
    have fin : gG p l e room_1 s m args below meth c D (cyT cy) A0 9 Q (LW cy Ac aK Am qo qd σ τ' f9 fd) (k + 2) (n + 12) 2075 [(7, .int v), (6, .int kq), (0, .ref b), (1, .ref (Ac 0)), (2, .ref (Am 0)), (3, .ref qo), (4, .ref qd), (5, .int i)] [] := g_goto X (tgt := 2302) dL_law_2075 (by decide) (g_sub [2, 3, 4, 5, 6, 7] rfl (g_wid (Nat.add_le_add_left (by decide) k) (Nat.add_le_add_left (by decide) n) (kk _ _ _ _ _ hR)))
    refine g_istore X dL_law_2027 (by decide) (lv' := [(6, .int kq), (0, .ref b), (1, .ref (Ac 0)), (2, .ref (Am 0)), (3, .ref qo), (4, .ref qd), (5, .int i)]) rfl ?_
    refine g_aload_n X dL_law_2029 rfl 3 rfl ?_
    refine g_aload_n X dL_law_2030 rfl 1 rfl ?_
    refine g_iload X dL_law_2031 6 rfl ?_
    refine g_iconst X dL_law_2033 (v := (1 : Int32)) (by decide) ?_
    refine g_iadd X dL_law_2034 ?_
    refine g_scld X hX hbl hbA h1 dL_law_2035 ?_
    refine g_aload_n X dL_law_2036 rfl 1 rfl ?_
    refine g_iload X dL_law_2037 6 rfl ?_
    refine g_iconst X dL_law_2039 (v := (2 : Int32)) (by decide) ?_
    refine g_iadd X dL_law_2040 ?_
    refine g_scld X hX hbl hbA h2 dL_law_2041 ?_
    refine g_perm (LW_perm cy Ac aK Am qo qd σ τ f9 fd) ?_
    refine g_callVI (AD := Am) (E := mE cy Am) (L := mLs) (As := [.int (xs (i + (1 : Int32)).toNatClampNeg), .int (xs (i + (2 : Int32)).toNatClampNeg)]) X (ZL_ok _ _ _ _ _) (mI_up (m_X11_compare hm)) (cwV 2 X.1.2.2.2.2 gZ_law_X11_compare rfl rfl rfl (by decide +kernel) ⟨Nat.le_of_ble_eq_true rfl, Nat.le_of_ble_eq_true rfl⟩) rfl mm0 (mE_0 cy Am τ) rfl rfl (Nat.le_of_ble_eq_true rfl) ⟨Nat.le_trans (Nat.add_le_add_left (by decide : 2 ≤ 4) k) hk, Nat.le_trans (Nat.add_le_add_left (by decide : 12 ≤ 24) n) hn⟩ dL_law_2042 ?_
    refine g_perm (LW_perm cy Ac aK Am qo qd σ τ' f9 fd).symm ?_
    refine g_istore X dL_law_2045 (by decide) (lv' := [(7, .int v), (6, .int kq), (0, .ref b), (1, .ref (Ac 0)), (2, .ref (Am 0)), (3, .ref qo), (4, .ref qd), (5, .int i)]) rfl ?_
    refine g_aload_n X dL_law_2047 rfl 4 rfl ?_
    refine g_perm (LW_perm cy Ac aK Am qo qd σ τ' f9 fd) ?_
    refine g_callVI (AD := Am) (E := mE cy Am) (L := mLs) (As := []) X (ZL_ok _ _ _ _ _) (mI_up (m_X11_thrown (σ := τ') (r := gi τ' 10) rfl)) (cwV 0 X.1.2.2.2.2 gZ_law_X11_thrown rfl rfl rfl (by decide +kernel) ⟨Nat.le_of_ble_eq_true rfl, Nat.le_of_ble_eq_true rfl⟩) rfl mm0 (mE_0 cy Am τ') rfl rfl (Nat.le_of_ble_eq_true rfl) ⟨Nat.le_trans (Nat.add_le_add_left (by decide : 2 ≤ 4) k) hk, Nat.le_trans (Nat.add_le_add_left (by decide : 12 ≤ 24) n) hn⟩ dL_law_2048 ?_
    refine g_perm (LW_perm cy Ac aK Am qo qd σ τ' f9 fd).symm ?_
    refine g_iload X dL_law_2051 1 rfl ?_
    refine g_icmp_eq X (tgt := 2058) dL_law_2053 (by decide) (fun _ => ?_) (fun z => absurd hq z)
    refine g_iload X dL_law_2058 1 rfl ?_
    refine g_if_ne X (tgt := 2075) dL_law_2060 (by decide) (fun _ => fin) (fun z => ?_)
    refine g_aload_n X dL_law_2063 rfl 5 rfl ?_
    refine g_iconst X dL_law_2064 (v := (0 : Int32)) (by decide) ?_
    refine g_lald X 85 5 (cW_85 _ _ _ _ _) rfl (vp_in_nI (n := 0) (N := 1) (by decide) (by decide)) dL_law_2065 ?_
    have hf := hf z
    refine g_iload X dL_law_2066 0 rfl ?_
    refine g_i2l X dL_law_2068 ?_
    refine g_lcmp X dL_law_2069 ?_
    refine g_if_eq X (tgt := 2075) dL_law_2070 (by decide) (fun _ => fin) (fun z2 => absurd (show lg_cmp (f9 0) (v.toInt64) = 0 by rw [show f9 0 = v.toInt64 from hf]; exact cmp_self _) z2)
  rcases ho with ⟨x, rfl, rfl, h0⟩ | ⟨j, E9, rfl, hE, h0⟩
  · refine g_lawS (Wf := (oL cy Ac aK qo ((qd, .inl (cy 6, 1, .inr (.inr (.inr (.inl fd))))) :: wF Am (mE cy Am) mLs [] τ))) (u := (σ, fo)) (u' := (σ, (vp_updL fo 0 v.toInt64))) (As := [.ref (Ac 0), .int (xs (i + (1 : Int32)).toNatClampNeg), .int (xs (i + (2 : Int32)).toNatClampNeg), .ref qo]) X (ZL_ok _ _ _ _ _) (w_compare_ok hl hc) (vx_cwSW 4 X.1.2.2.2.2 gZ_law_L_compare rfl rfl rfl (by decide +kernel) ⟨Nat.le_of_ble_eq_true rfl, Nat.le_of_ble_eq_true rfl⟩) rfl rfl (Nat.le_of_ble_eq_true rfl) ⟨Nat.le_trans (Nat.add_le_add_left (by decide : 2 ≤ 4) k) hk, Nat.le_trans (Nat.add_le_add_left (by decide : 12 ≤ 24) n) hn⟩ dL_law_2024 (k' := (k + 2)) (n' := (n + 12)) (Nat.le_refl _) (Nat.le_refl _) rfl rfl ?_
    exact tail 0 _ h0 (fun _ => rfl)
  · match j, hE, h0 with
    | 0, hE, h0 =>
      cases hE
      refine g_lawS (Wf := (oL cy Ac aK qo ((qd, .inl (cy 6, 1, .inr (.inr (.inr (.inl fd))))) :: wF Am (mE cy Am) mLs [] τ))) (u := (σ, fo)) (u' := (σ, fo)) (As := [.ref (Ac 0), .int (xs (i + (1 : Int32)).toNatClampNeg), .int (xs (i + (2 : Int32)).toNatClampNeg), .ref qo]) X (ZL_ok _ _ _ _ _) (w_compare_x1 hl hc) (vx_cwSW 4 X.1.2.2.2.2 gZ_law_L_compare rfl rfl rfl (by decide +kernel) ⟨Nat.le_of_ble_eq_true rfl, Nat.le_of_ble_eq_true rfl⟩) rfl rfl (Nat.le_of_ble_eq_true rfl) ⟨Nat.le_trans (Nat.add_le_add_left (by decide : 2 ≤ 4) k) hk, Nat.le_trans (Nat.add_le_add_left (by decide : 12 ≤ 24) n) hn⟩ dL_law_2024 (k' := (k + 2)) (n' := (n + 12)) (Nat.le_refl _) (Nat.le_refl _) rfl rfl ?_
      exact tail 1 _ h0 (fun z => absurd z (by decide))
    | j + 1, hE, _ => exact nomatch hE
set_option maxHeartbeats 8000000 in
set_option maxRecDepth 100000 in
theorem law_c32 (X : gC (ZL aK aO aS aV aT) p s m args meth c D (cyT cy) A0 cL_law wzL_law RL 9 ret) (hl : l.stackTraces = false) (hX : va_X b L xs s s.heap) (hbl : b < s.heap.size) (hbA : ¬ A0 b) (h1 : vp_in (i + (1 : Int32)) L) (h2 : vp_in (i + (2 : Int32)) L) (h3 : vp_in (i + (3 : Int32)) L) (h4 : vp_in (i + (4 : Int32)) L) (hk : k + 4 ≤ room_1.cells) (hn : n + 24 ≤ room_1.slots) (h : REL a σ τ)
    (kk : ∀ (σ' τ' : St) (a' : AS) (fo' : Nat → Int64) (fd' : Nat → UInt64), REL a' σ' τ' → gG p l e room_1 s m args below meth c D (cyT cy) A0 9 Q (LW cy Ac aK Am qo qd σ' τ' fo' fd') (k + 4) (n + 24) 2302 [(0, .ref b), (1, .ref (Ac 0)), (2, .ref (Am 0)), (3, .ref qo), (4, .ref qd), (5, .int i)] []) : gG p l e room_1 s m args below meth c D (cyT cy) A0 9 Q (LW cy Ac aK Am qo qd σ τ fo fd) k n 2078 [(0, .ref b), (1, .ref (Ac 0)), (2, .ref (Am 0)), (3, .ref qo), (4, .ref qd), (5, .int i)] [] := by
  obtain ⟨r, σ', v, τ', a', hc, hm, hR, ho⟩ := P_middle h ((xs (i + (1 : Int32)).toNatClampNeg))
  refine g_aload_n X dL_law_2078 rfl 1 rfl ?_
  refine g_aload_n X dL_law_2079 rfl 0 rfl ?_
  refine g_iload X dL_law_2080 5 rfl ?_
  refine g_iconst X dL_law_2082 (v := (1 : Int32)) (by decide) ?_
  refine g_iadd X dL_law_2083 ?_
  refine g_scld X hX hbl hbA h1 dL_law_2084 ?_
  refine g_aload_n X dL_law_2085 rfl 3 rfl ?_
  have tail : ∀ (kq : Int32) (f9 : Nat → Int64), gi τ' 10 = kq → (kq = 0 → f9 0 = v.toInt64) → gG p l e room_1 s m args below meth c D (cyT cy) A0 9 Q (LW cy Ac aK Am qo qd σ' τ f9 fd) (k + 2) (n + 12) 2089 [(0, .ref b), (1, .ref (Ac 0)), (2, .ref (Am 0)), (3, .ref qo), (4, .ref qd), (5, .int i)] [.int kq] := by
    intro kq f9 hq hf
    have fin : gG p l e room_1 s m args below meth c D (cyT cy) A0 9 Q (LW cy Ac aK Am qo qd σ' τ' f9 fd) (k + 2) (n + 12) 2131 [(7, .int v), (6, .int kq), (0, .ref b), (1, .ref (Ac 0)), (2, .ref (Am 0)), (3, .ref qo), (4, .ref qd), (5, .int i)] [] := g_goto X (tgt := 2302) dL_law_2131 (by decide) (g_sub [2, 3, 4, 5, 6, 7] rfl (g_wid (Nat.add_le_add_left (by decide) k) (Nat.add_le_add_left (by decide) n) (kk _ _ _ _ _ hR)))
    refine g_istore X dL_law_2089 (by decide) (lv' := [(6, .int kq), (0, .ref b), (1, .ref (Ac 0)), (2, .ref (Am 0)), (3, .ref qo), (4, .ref qd), (5, .int i)]) rfl ?_
    refine g_aload_n X dL_law_2091 rfl 3 rfl ?_
    refine g_aload_n X dL_law_2092 rfl 1 rfl ?_
    refine g_iload X dL_law_2093 6 rfl ?_
    refine g_iconst X dL_law_2095 (v := (1 : Int32)) (by decide) ?_
    refine g_iadd X dL_law_2096 ?_
    refine g_scld X hX hbl hbA h1 dL_law_2097 ?_
    refine g_perm (LW_perm cy Ac aK Am qo qd σ' τ f9 fd) ?_
    refine g_callVI (AD := Am) (E := mE cy Am) (L := mLs) (As := [.int (xs (i + (1 : Int32)).toNatClampNeg)]) X (ZL_ok _ _ _ _ _) (mI_up (m_X11_middle hm)) (cwV 1 X.1.2.2.2.2 gZ_law_X11_middle rfl rfl rfl (by decide +kernel) ⟨Nat.le_of_ble_eq_true rfl, Nat.le_of_ble_eq_true rfl⟩) rfl mm0 (mE_0 cy Am τ) rfl rfl (Nat.le_of_ble_eq_true rfl) ⟨Nat.le_trans (Nat.add_le_add_left (by decide : 2 ≤ 4) k) hk, Nat.le_trans (Nat.add_le_add_left (by decide : 12 ≤ 24) n) hn⟩ dL_law_2098 ?_
    refine g_perm (LW_perm cy Ac aK Am qo qd σ' τ' f9 fd).symm ?_
    refine g_istore X dL_law_2101 (by decide) (lv' := [(7, .int v), (6, .int kq), (0, .ref b), (1, .ref (Ac 0)), (2, .ref (Am 0)), (3, .ref qo), (4, .ref qd), (5, .int i)]) rfl ?_
    refine g_aload_n X dL_law_2103 rfl 4 rfl ?_
    refine g_perm (LW_perm cy Ac aK Am qo qd σ' τ' f9 fd) ?_
    refine g_callVI (AD := Am) (E := mE cy Am) (L := mLs) (As := []) X (ZL_ok _ _ _ _ _) (mI_up (m_X11_thrown (σ := τ') (r := gi τ' 10) rfl)) (cwV 0 X.1.2.2.2.2 gZ_law_X11_thrown rfl rfl rfl (by decide +kernel) ⟨Nat.le_of_ble_eq_true rfl, Nat.le_of_ble_eq_true rfl⟩) rfl mm0 (mE_0 cy Am τ') rfl rfl (Nat.le_of_ble_eq_true rfl) ⟨Nat.le_trans (Nat.add_le_add_left (by decide : 2 ≤ 4) k) hk, Nat.le_trans (Nat.add_le_add_left (by decide : 12 ≤ 24) n) hn⟩ dL_law_2104 ?_
    refine g_perm (LW_perm cy Ac aK Am qo qd σ' τ' f9 fd).symm ?_
    refine g_iload X dL_law_2107 1 rfl ?_
    refine g_icmp_eq X (tgt := 2114) dL_law_2109 (by decide) (fun _ => ?_) (fun z => absurd hq z)
    refine g_iload X dL_law_2114 1 rfl ?_
    refine g_if_ne X (tgt := 2131) dL_law_2116 (by decide) (fun _ => fin) (fun z => ?_)
    refine g_aload_n X dL_law_2119 rfl 5 rfl ?_
    refine g_iconst X dL_law_2120 (v := (0 : Int32)) (by decide) ?_
    refine g_lald X 85 5 (cW_85 _ _ _ _ _) rfl (vp_in_nI (n := 0) (N := 1) (by decide) (by decide)) dL_law_2121 ?_
    have hf := hf z
    refine g_iload X dL_law_2122 0 rfl ?_
    refine g_i2l X dL_law_2124 ?_
    refine g_lcmp X dL_law_2125 ?_
    refine g_if_eq X (tgt := 2131) dL_law_2126 (by decide) (fun _ => fin) (fun z2 => absurd (show lg_cmp (f9 0) (v.toInt64) = 0 by rw [show f9 0 = v.toInt64 from hf]; exact cmp_self _) z2)
  rcases ho with ⟨x, rfl, rfl, h0⟩ | ⟨j, E9, rfl, hE, h0⟩
  · refine g_lawS (Wf := (oL cy Ac aK qo ((qd, .inl (cy 6, 1, .inr (.inr (.inr (.inl fd))))) :: wF Am (mE cy Am) mLs [] τ))) (u := (σ, fo)) (u' := (σ', (vp_updL fo 0 v.toInt64))) (As := [.ref (Ac 0), .int (xs (i + (1 : Int32)).toNatClampNeg), .ref qo]) X (ZL_ok _ _ _ _ _) (w_middle_ok hl hc) (vx_cwSW 3 X.1.2.2.2.2 gZ_law_L_middle rfl rfl rfl (by decide +kernel) ⟨Nat.le_of_ble_eq_true rfl, Nat.le_of_ble_eq_true rfl⟩) rfl rfl (Nat.le_of_ble_eq_true rfl) ⟨Nat.le_trans (Nat.add_le_add_left (by decide : 2 ≤ 4) k) hk, Nat.le_trans (Nat.add_le_add_left (by decide : 12 ≤ 24) n) hn⟩ dL_law_2086 (k' := (k + 2)) (n' := (n + 12)) (Nat.le_refl _) (Nat.le_refl _) rfl rfl ?_
    exact tail 0 _ h0 (fun _ => rfl)
  · match j, hE, h0 with
    | 0, hE, h0 =>
      cases hE
      refine g_lawS (Wf := (oL cy Ac aK qo ((qd, .inl (cy 6, 1, .inr (.inr (.inr (.inl fd))))) :: wF Am (mE cy Am) mLs [] τ))) (u := (σ, fo)) (u' := (σ', fo)) (As := [.ref (Ac 0), .int (xs (i + (1 : Int32)).toNatClampNeg), .ref qo]) X (ZL_ok _ _ _ _ _) (w_middle_x1 hl hc) (vx_cwSW 3 X.1.2.2.2.2 gZ_law_L_middle rfl rfl rfl (by decide +kernel) ⟨Nat.le_of_ble_eq_true rfl, Nat.le_of_ble_eq_true rfl⟩) rfl rfl (Nat.le_of_ble_eq_true rfl) ⟨Nat.le_trans (Nat.add_le_add_left (by decide : 2 ≤ 4) k) hk, Nat.le_trans (Nat.add_le_add_left (by decide : 12 ≤ 24) n) hn⟩ dL_law_2086 (k' := (k + 2)) (n' := (n + 12)) (Nat.le_refl _) (Nat.le_refl _) rfl rfl ?_
      exact tail 1 _ h0 (fun z => absurd z (by decide))
    | 1, hE, h0 =>
      cases hE
      refine g_lawS (Wf := (oL cy Ac aK qo ((qd, .inl (cy 6, 1, .inr (.inr (.inr (.inl fd))))) :: wF Am (mE cy Am) mLs [] τ))) (u := (σ, fo)) (u' := (σ', fo)) (As := [.ref (Ac 0), .int (xs (i + (1 : Int32)).toNatClampNeg), .ref qo]) X (ZL_ok _ _ _ _ _) (w_middle_x2 hl hc) (vx_cwSW 3 X.1.2.2.2.2 gZ_law_L_middle rfl rfl rfl (by decide +kernel) ⟨Nat.le_of_ble_eq_true rfl, Nat.le_of_ble_eq_true rfl⟩) rfl rfl (Nat.le_of_ble_eq_true rfl) ⟨Nat.le_trans (Nat.add_le_add_left (by decide : 2 ≤ 4) k) hk, Nat.le_trans (Nat.add_le_add_left (by decide : 12 ≤ 24) n) hn⟩ dL_law_2086 (k' := (k + 2)) (n' := (n + 12)) (Nat.le_refl _) (Nat.le_refl _) rfl rfl ?_
      exact tail 2 _ h0 (fun z => absurd z (by decide))
    | j + 2, hE, _ => exact nomatch hE
set_option maxHeartbeats 8000000 in
set_option maxRecDepth 100000 in
theorem law_c33 (X : gC (ZL aK aO aS aV aT) p s m args meth c D (cyT cy) A0 cL_law wzL_law RL 9 ret) (hl : l.stackTraces = false) (hX : va_X b L xs s s.heap) (hbl : b < s.heap.size) (hbA : ¬ A0 b) (h1 : vp_in (i + (1 : Int32)) L) (h2 : vp_in (i + (2 : Int32)) L) (h3 : vp_in (i + (3 : Int32)) L) (h4 : vp_in (i + (4 : Int32)) L) (hk : k + 4 ≤ room_1.cells) (hn : n + 24 ≤ room_1.slots) (h : REL a σ τ)
    (kk : ∀ (σ' τ' : St) (a' : AS) (fo' : Nat → Int64) (fd' : Nat → UInt64), REL a' σ' τ' → gG p l e room_1 s m args below meth c D (cyT cy) A0 9 Q (LW cy Ac aK Am qo qd σ' τ' fo' fd') (k + 4) (n + 24) 2302 [(0, .ref b), (1, .ref (Ac 0)), (2, .ref (Am 0)), (3, .ref qo), (4, .ref qd), (5, .int i)] []) : gG p l e room_1 s m args below meth c D (cyT cy) A0 9 Q (LW cy Ac aK Am qo qd σ τ fo fd) k n 2134 [(0, .ref b), (1, .ref (Ac 0)), (2, .ref (Am 0)), (3, .ref qo), (4, .ref qd), (5, .int i)] [] := by
  obtain ⟨⟨r, v, τ', a', hc, hm, hR, ho⟩, hnn⟩ := P_mean h ((xs (i + (1 : Int32)).toNatClampNeg))
  refine g_aload_n X dL_law_2134 rfl 1 rfl ?_
  refine g_aload_n X dL_law_2135 rfl 0 rfl ?_
  refine g_iload X dL_law_2136 5 rfl ?_
  refine g_iconst X dL_law_2138 (v := (1 : Int32)) (by decide) ?_
  refine g_iadd X dL_law_2139 ?_
  refine g_scld X hX hbl hbA h1 dL_law_2140 ?_
  refine g_aload X dL_law_2141 4 rfl ?_
  rcases ho with ⟨x, rfl, rfl, h0⟩ | ⟨j, E9, rfl, hE, h0⟩
  · obtain ⟨y9, hy9, ey9⟩ := hnn _ hc
    have hdd : ∀ op : CmpOp, Op.cmpValue (FP.dcmp v v) op = 0 := fun op => dcmpv_self (by rw [ey9]; exact dcmp_self hy9) op
    have tail : ∀ (kq : Int32) (f9 : Nat → UInt64), gi τ' 10 = kq → (kq = 0 → f9 0 = v ∧ ∀ op : CmpOp, Op.cmpValue (FP.dcmp (f9 0) v) op = 0) → gG p l e room_1 s m args below meth c D (cyT cy) A0 9 Q (LW cy Ac aK Am qo qd σ τ fo f9) (k + 1) (n + 6) 2146 [(0, .ref b), (1, .ref (Ac 0)), (2, .ref (Am 0)), (3, .ref qo), (4, .ref qd), (5, .int i)] [.int kq] := by
      intro kq f9 hq hf
      have fin : gG p l e room_1 s m args below meth c D (cyT cy) A0 9 Q (LW cy Ac aK Am qo qd σ τ' fo f9) (k + 1) (n + 6) 2208 [(7, .double v), (6, .int kq), (0, .ref b), (1, .ref (Ac 0)), (2, .ref (Am 0)), (3, .ref qo), (4, .ref qd), (5, .int i)] [] := g_goto X (tgt := 2302) dL_law_2208 (by decide) (g_sub [2, 3, 4, 5, 6, 7] rfl (g_wid (Nat.add_le_add_left (by decide) k) (Nat.add_le_add_left (by decide) n) (kk _ _ _ _ _ hR)))
      refine g_istore X dL_law_2146 (by decide) (lv' := [(6, .int kq), (0, .ref b), (1, .ref (Ac 0)), (2, .ref (Am 0)), (3, .ref qo), (4, .ref qd), (5, .int i)]) rfl ?_
      refine g_aload_n X dL_law_2148 rfl 3 rfl ?_
      refine g_aload_n X dL_law_2149 rfl 1 rfl ?_
      refine g_iload X dL_law_2150 6 rfl ?_
      refine g_iconst X dL_law_2152 (v := (1 : Int32)) (by decide) ?_
      refine g_iadd X dL_law_2153 ?_
      refine g_scld X hX hbl hbA h1 dL_law_2154 ?_
      refine g_perm (LW_perm cy Ac aK Am qo qd σ τ fo f9) ?_
      refine g_callVDd (AD := Am) (E := mE cy Am) (L := mLs) (As := [.int (xs (i + (1 : Int32)).toNatClampNeg)]) X (ZL_ok _ _ _ _ _) (mDd_up (m_X11_mean hm)) (cwV 1 X.1.2.2.2.2 gZ_law_X11_mean rfl rfl rfl (by decide +kernel) ⟨Nat.le_of_ble_eq_true rfl, Nat.le_of_ble_eq_true rfl⟩) rfl mm0 (mE_0 cy Am τ) rfl rfl (Nat.le_of_ble_eq_true rfl) ⟨Nat.le_trans (Nat.add_le_add_left (by decide : 1 ≤ 4) k) hk, Nat.le_trans (Nat.add_le_add_left (by decide : 6 ≤ 24) n) hn⟩ dL_law_2155 ?_
      refine g_perm (LW_perm cy Ac aK Am qo qd σ τ' fo f9).symm ?_
      refine g_dstore X dL_law_2158 (by decide) (lv' := [(7, .double v), (6, .int kq), (0, .ref b), (1, .ref (Ac 0)), (2, .ref (Am 0)), (3, .ref qo), (4, .ref qd), (5, .int i)]) rfl ?_
      refine g_aload_n X dL_law_2160 rfl 4 rfl ?_
      refine g_perm (LW_perm cy Ac aK Am qo qd σ τ' fo f9) ?_
      refine g_callVI (AD := Am) (E := mE cy Am) (L := mLs) (As := []) X (ZL_ok _ _ _ _ _) (mI_up (m_X11_thrown (σ := τ') (r := gi τ' 10) rfl)) (cwV 0 X.1.2.2.2.2 gZ_law_X11_thrown rfl rfl rfl (by decide +kernel) ⟨Nat.le_of_ble_eq_true rfl, Nat.le_of_ble_eq_true rfl⟩) rfl mm0 (mE_0 cy Am τ') rfl rfl (Nat.le_of_ble_eq_true rfl) ⟨Nat.le_trans (Nat.add_le_add_left (by decide : 1 ≤ 4) k) hk, Nat.le_trans (Nat.add_le_add_left (by decide : 6 ≤ 24) n) hn⟩ dL_law_2161 ?_
      refine g_perm (LW_perm cy Ac aK Am qo qd σ τ' fo f9).symm ?_
      refine g_iload X dL_law_2164 1 rfl ?_
      refine g_icmp_eq X (tgt := 2171) dL_law_2166 (by decide) (fun _ => ?_) (fun z => absurd hq z)
      refine g_iload X dL_law_2171 1 rfl ?_
      refine g_if_ne X (tgt := 2208) dL_law_2173 (by decide) (fun _ => fin) (fun z => ?_)
      refine g_aload X dL_law_2176 6 rfl ?_
      refine g_iconst X dL_law_2178 (v := (0 : Int32)) (by decide) ?_
      refine g_dald X 86 6 (cW_86 _ _ _ _ _) rfl (vp_in_nI (n := 0) (N := 1) (by decide) (by decide)) dL_law_2179 ?_
      have hf := hf z
      refine g_dload X dL_law_2180 0 rfl ?_
      refine g_dcmp X dL_law_2182 ?_
      refine g_if_eq X (tgt := 2208) dL_law_2183 (by decide) (fun _ => fin) (fun z2 => absurd (hf.2 _) z2)
    refine g_lawS (Wf := (oD cy Ac aK qo (.inl (cy 5, 1, .inr (.inl fo))) qd (wF Am (mE cy Am) mLs [] τ))) (u := (σ, fd)) (u' := (σ, (vf_upd fd 0 v))) (As := [.ref (Ac 0), .int (xs (i + (1 : Int32)).toNatClampNeg), .ref qd]) X (ZL_ok _ _ _ _ _) (w_mean_ok hl hc) (vx_cwSW 3 X.1.2.2.2.2 gZ_law_L_mean rfl rfl rfl (by decide +kernel) ⟨Nat.le_of_ble_eq_true rfl, Nat.le_of_ble_eq_true rfl⟩) rfl rfl (Nat.le_of_ble_eq_true rfl) ⟨Nat.le_trans (Nat.add_le_add_left (by decide : 1 ≤ 4) k) hk, Nat.le_trans (Nat.add_le_add_left (by decide : 6 ≤ 24) n) hn⟩ dL_law_2143 (k' := (k + 1)) (n' := (n + 6)) (Nat.le_refl _) (Nat.le_refl _) rfl rfl ?_
    exact tail 0 _ h0 (fun _ => ⟨rfl, fun op => hdd op⟩)
  · match j, hE, h0 with
    | 0, hE, h0 =>
      cases hE
      have tail : ∀ (kq : Int32) (f9 : Nat → UInt64), gi τ' 10 = kq → ¬ kq = 0 → gG p l e room_1 s m args below meth c D (cyT cy) A0 9 Q (LW cy Ac aK Am qo qd σ τ fo f9) (k + 1) (n + 6) 2146 [(0, .ref b), (1, .ref (Ac 0)), (2, .ref (Am 0)), (3, .ref qo), (4, .ref qd), (5, .int i)] [.int kq] := by
        intro kq f9 hq hne
        have fin : gG p l e room_1 s m args below meth c D (cyT cy) A0 9 Q (LW cy Ac aK Am qo qd σ τ' fo f9) (k + 1) (n + 6) 2208 [(7, .double v), (6, .int kq), (0, .ref b), (1, .ref (Ac 0)), (2, .ref (Am 0)), (3, .ref qo), (4, .ref qd), (5, .int i)] [] := g_goto X (tgt := 2302) dL_law_2208 (by decide) (g_sub [2, 3, 4, 5, 6, 7] rfl (g_wid (Nat.add_le_add_left (by decide) k) (Nat.add_le_add_left (by decide) n) (kk _ _ _ _ _ hR)))
        refine g_istore X dL_law_2146 (by decide) (lv' := [(6, .int kq), (0, .ref b), (1, .ref (Ac 0)), (2, .ref (Am 0)), (3, .ref qo), (4, .ref qd), (5, .int i)]) rfl ?_
        refine g_aload_n X dL_law_2148 rfl 3 rfl ?_
        refine g_aload_n X dL_law_2149 rfl 1 rfl ?_
        refine g_iload X dL_law_2150 6 rfl ?_
        refine g_iconst X dL_law_2152 (v := (1 : Int32)) (by decide) ?_
        refine g_iadd X dL_law_2153 ?_
        refine g_scld X hX hbl hbA h1 dL_law_2154 ?_
        refine g_perm (LW_perm cy Ac aK Am qo qd σ τ fo f9) ?_
        refine g_callVDd (AD := Am) (E := mE cy Am) (L := mLs) (As := [.int (xs (i + (1 : Int32)).toNatClampNeg)]) X (ZL_ok _ _ _ _ _) (mDd_up (m_X11_mean hm)) (cwV 1 X.1.2.2.2.2 gZ_law_X11_mean rfl rfl rfl (by decide +kernel) ⟨Nat.le_of_ble_eq_true rfl, Nat.le_of_ble_eq_true rfl⟩) rfl mm0 (mE_0 cy Am τ) rfl rfl (Nat.le_of_ble_eq_true rfl) ⟨Nat.le_trans (Nat.add_le_add_left (by decide : 1 ≤ 4) k) hk, Nat.le_trans (Nat.add_le_add_left (by decide : 6 ≤ 24) n) hn⟩ dL_law_2155 ?_
        refine g_perm (LW_perm cy Ac aK Am qo qd σ τ' fo f9).symm ?_
        refine g_dstore X dL_law_2158 (by decide) (lv' := [(7, .double v), (6, .int kq), (0, .ref b), (1, .ref (Ac 0)), (2, .ref (Am 0)), (3, .ref qo), (4, .ref qd), (5, .int i)]) rfl ?_
        refine g_aload_n X dL_law_2160 rfl 4 rfl ?_
        refine g_perm (LW_perm cy Ac aK Am qo qd σ τ' fo f9) ?_
        refine g_callVI (AD := Am) (E := mE cy Am) (L := mLs) (As := []) X (ZL_ok _ _ _ _ _) (mI_up (m_X11_thrown (σ := τ') (r := gi τ' 10) rfl)) (cwV 0 X.1.2.2.2.2 gZ_law_X11_thrown rfl rfl rfl (by decide +kernel) ⟨Nat.le_of_ble_eq_true rfl, Nat.le_of_ble_eq_true rfl⟩) rfl mm0 (mE_0 cy Am τ') rfl rfl (Nat.le_of_ble_eq_true rfl) ⟨Nat.le_trans (Nat.add_le_add_left (by decide : 1 ≤ 4) k) hk, Nat.le_trans (Nat.add_le_add_left (by decide : 6 ≤ 24) n) hn⟩ dL_law_2161 ?_
        refine g_perm (LW_perm cy Ac aK Am qo qd σ τ' fo f9).symm ?_
        refine g_iload X dL_law_2164 1 rfl ?_
        refine g_icmp_eq X (tgt := 2171) dL_law_2166 (by decide) (fun _ => ?_) (fun z => absurd hq z)
        refine g_iload X dL_law_2171 1 rfl ?_
        refine g_if_ne X (tgt := 2208) dL_law_2173 (by decide) (fun _ => fin) (fun z => absurd z hne)
      refine g_lawS (Wf := (oD cy Ac aK qo (.inl (cy 5, 1, .inr (.inl fo))) qd (wF Am (mE cy Am) mLs [] τ))) (u := (σ, fd)) (u' := (σ, fd)) (As := [.ref (Ac 0), .int (xs (i + (1 : Int32)).toNatClampNeg), .ref qd]) X (ZL_ok _ _ _ _ _) (w_mean_x1 hl hc) (vx_cwSW 3 X.1.2.2.2.2 gZ_law_L_mean rfl rfl rfl (by decide +kernel) ⟨Nat.le_of_ble_eq_true rfl, Nat.le_of_ble_eq_true rfl⟩) rfl rfl (Nat.le_of_ble_eq_true rfl) ⟨Nat.le_trans (Nat.add_le_add_left (by decide : 1 ≤ 4) k) hk, Nat.le_trans (Nat.add_le_add_left (by decide : 6 ≤ 24) n) hn⟩ dL_law_2143 (k' := (k + 1)) (n' := (n + 6)) (Nat.le_refl _) (Nat.le_refl _) rfl rfl ?_
      exact tail 1 _ h0 (by decide)
    | j + 1, hE, _ => exact nomatch hE
set_option maxHeartbeats 8000000 in
set_option maxRecDepth 100000 in
theorem law_c34 (X : gC (ZL aK aO aS aV aT) p s m args meth c D (cyT cy) A0 cL_law wzL_law RL 9 ret) (hl : l.stackTraces = false) (hX : va_X b L xs s s.heap) (hbl : b < s.heap.size) (hbA : ¬ A0 b) (h1 : vp_in (i + (1 : Int32)) L) (h2 : vp_in (i + (2 : Int32)) L) (h3 : vp_in (i + (3 : Int32)) L) (h4 : vp_in (i + (4 : Int32)) L) (hk : k + 4 ≤ room_1.cells) (hn : n + 24 ≤ room_1.slots) (h : REL a σ τ)
    (kk : ∀ (σ' τ' : St) (a' : AS) (fo' : Nat → Int64) (fd' : Nat → UInt64), REL a' σ' τ' → gG p l e room_1 s m args below meth c D (cyT cy) A0 9 Q (LW cy Ac aK Am qo qd σ' τ' fo' fd') (k + 4) (n + 24) 2302 [(0, .ref b), (1, .ref (Ac 0)), (2, .ref (Am 0)), (3, .ref qo), (4, .ref qd), (5, .int i)] []) : gG p l e room_1 s m args below meth c D (cyT cy) A0 9 Q (LW cy Ac aK Am qo qd σ τ fo fd) k n 2211 [(0, .ref b), (1, .ref (Ac 0)), (2, .ref (Am 0)), (3, .ref qo), (4, .ref qd), (5, .int i)] [] := by
  obtain ⟨⟨r, v, τ', a', hc, hm, hR, ho⟩, hnn⟩ := P_risingShare h ((xs (i + (1 : Int32)).toNatClampNeg))
  refine g_aload_n X dL_law_2211 rfl 1 rfl ?_
  refine g_aload_n X dL_law_2212 rfl 0 rfl ?_
  refine g_iload X dL_law_2213 5 rfl ?_
  refine g_iconst X dL_law_2215 (v := (1 : Int32)) (by decide) ?_
  refine g_iadd X dL_law_2216 ?_
  refine g_scld X hX hbl hbA h1 dL_law_2217 ?_
  refine g_aload X dL_law_2218 4 rfl ?_
  rcases ho with ⟨x, rfl, rfl, h0⟩ | ⟨j, E9, rfl, hE, h0⟩
  · obtain ⟨y9, hy9, ey9⟩ := hnn _ hc
    obtain ⟨y8, hy8, ey8⟩ := f2d_ok hy9
    have hv9 : vf_n64 (FP.f2d v) := by rw [ey9, ey8]; exact n64_of hy8
    have hdd : ∀ op : CmpOp, Op.cmpValue (FP.dcmp (FP.f2d v) (FP.f2d v)) op = 0 := fun op => dcmpv_self (by rw [ey9, ey8]; exact dcmp_self hy8) op
    have tail : ∀ (kq : Int32) (f9 : Nat → UInt64), gi τ' 10 = kq → (kq = 0 → f9 0 = (FP.f2d v) ∧ ∀ op : CmpOp, Op.cmpValue (FP.dcmp (f9 0) (FP.f2d v)) op = 0) → gG p l e room_1 s m args below meth c D (cyT cy) A0 9 Q (LW cy Ac aK Am qo qd σ τ fo f9) (k + 1) (n + 6) 2223 [(0, .ref b), (1, .ref (Ac 0)), (2, .ref (Am 0)), (3, .ref qo), (4, .ref qd), (5, .int i)] [.int kq] := by
      intro kq f9 hq hf
      have fin : gG p l e room_1 s m args below meth c D (cyT cy) A0 9 Q (LW cy Ac aK Am qo qd σ τ' fo f9) (k + 1) (n + 6) 2286 [(7, .float v), (6, .int kq), (0, .ref b), (1, .ref (Ac 0)), (2, .ref (Am 0)), (3, .ref qo), (4, .ref qd), (5, .int i)] [] := g_goto X (tgt := 2302) dL_law_2286 (by decide) (g_sub [2, 3, 4, 5, 6, 7] rfl (g_wid (Nat.add_le_add_left (by decide) k) (Nat.add_le_add_left (by decide) n) (kk _ _ _ _ _ hR)))
      refine g_istore X dL_law_2223 (by decide) (lv' := [(6, .int kq), (0, .ref b), (1, .ref (Ac 0)), (2, .ref (Am 0)), (3, .ref qo), (4, .ref qd), (5, .int i)]) rfl ?_
      refine g_aload_n X dL_law_2225 rfl 3 rfl ?_
      refine g_aload_n X dL_law_2226 rfl 1 rfl ?_
      refine g_iload X dL_law_2227 6 rfl ?_
      refine g_iconst X dL_law_2229 (v := (1 : Int32)) (by decide) ?_
      refine g_iadd X dL_law_2230 ?_
      refine g_scld X hX hbl hbA h1 dL_law_2231 ?_
      refine g_perm (LW_perm cy Ac aK Am qo qd σ τ fo f9) ?_
      refine g_callVF (AD := Am) (E := mE cy Am) (L := mLs) (As := [.int (xs (i + (1 : Int32)).toNatClampNeg)]) X (ZL_ok _ _ _ _ _) (mF_up (m_X11_risingShare hm)) (cwV 1 X.1.2.2.2.2 gZ_law_X11_risingShare rfl rfl rfl (by decide +kernel) ⟨Nat.le_of_ble_eq_true rfl, Nat.le_of_ble_eq_true rfl⟩) rfl mm0 (mE_0 cy Am τ) rfl rfl (Nat.le_of_ble_eq_true rfl) ⟨Nat.le_trans (Nat.add_le_add_left (by decide : 1 ≤ 4) k) hk, Nat.le_trans (Nat.add_le_add_left (by decide : 6 ≤ 24) n) hn⟩ dL_law_2232 ?_
      refine g_perm (LW_perm cy Ac aK Am qo qd σ τ' fo f9).symm ?_
      refine g_fstore X dL_law_2235 (by decide) (lv' := [(7, .float v), (6, .int kq), (0, .ref b), (1, .ref (Ac 0)), (2, .ref (Am 0)), (3, .ref qo), (4, .ref qd), (5, .int i)]) rfl ?_
      refine g_aload_n X dL_law_2237 rfl 4 rfl ?_
      refine g_perm (LW_perm cy Ac aK Am qo qd σ τ' fo f9) ?_
      refine g_callVI (AD := Am) (E := mE cy Am) (L := mLs) (As := []) X (ZL_ok _ _ _ _ _) (mI_up (m_X11_thrown (σ := τ') (r := gi τ' 10) rfl)) (cwV 0 X.1.2.2.2.2 gZ_law_X11_thrown rfl rfl rfl (by decide +kernel) ⟨Nat.le_of_ble_eq_true rfl, Nat.le_of_ble_eq_true rfl⟩) rfl mm0 (mE_0 cy Am τ') rfl rfl (Nat.le_of_ble_eq_true rfl) ⟨Nat.le_trans (Nat.add_le_add_left (by decide : 1 ≤ 4) k) hk, Nat.le_trans (Nat.add_le_add_left (by decide : 6 ≤ 24) n) hn⟩ dL_law_2238 ?_
      refine g_perm (LW_perm cy Ac aK Am qo qd σ τ' fo f9).symm ?_
      refine g_iload X dL_law_2241 1 rfl ?_
      refine g_icmp_eq X (tgt := 2248) dL_law_2243 (by decide) (fun _ => ?_) (fun z => absurd hq z)
      refine g_iload X dL_law_2248 1 rfl ?_
      refine g_if_ne X (tgt := 2286) dL_law_2250 (by decide) (fun _ => fin) (fun z => ?_)
      refine g_aload X dL_law_2253 6 rfl ?_
      refine g_iconst X dL_law_2255 (v := (0 : Int32)) (by decide) ?_
      refine g_dald X 86 6 (cW_86 _ _ _ _ _) rfl (vp_in_nI (n := 0) (N := 1) (by decide) (by decide)) dL_law_2256 ?_
      have hf := hf z
      refine g_fload X dL_law_2257 0 rfl ?_
      refine g_f2d X dL_law_2259 hv9 ?_
      refine g_dcmp X dL_law_2260 ?_
      refine g_if_eq X (tgt := 2286) dL_law_2261 (by decide) (fun _ => fin) (fun z2 => absurd (hf.2 _) z2)
    refine g_lawS (Wf := (oD cy Ac aK qo (.inl (cy 5, 1, .inr (.inl fo))) qd (wF Am (mE cy Am) mLs [] τ))) (u := (σ, fd)) (u' := (σ, (vf_upd fd 0 (FP.f2d v)))) (As := [.ref (Ac 0), .int (xs (i + (1 : Int32)).toNatClampNeg), .ref qd]) X (ZL_ok _ _ _ _ _) (w_risingShare_ok hl hv9 hc) (vx_cwSW 3 X.1.2.2.2.2 gZ_law_L_risingShare rfl rfl rfl (by decide +kernel) ⟨Nat.le_of_ble_eq_true rfl, Nat.le_of_ble_eq_true rfl⟩) rfl rfl (Nat.le_of_ble_eq_true rfl) ⟨Nat.le_trans (Nat.add_le_add_left (by decide : 1 ≤ 4) k) hk, Nat.le_trans (Nat.add_le_add_left (by decide : 6 ≤ 24) n) hn⟩ dL_law_2220 (k' := (k + 1)) (n' := (n + 6)) (Nat.le_refl _) (Nat.le_refl _) rfl rfl ?_
    exact tail 0 _ h0 (fun _ => ⟨rfl, fun op => hdd op⟩)
  · match j, hE, h0 with
    | 0, hE, h0 =>
      cases hE
      have tail : ∀ (kq : Int32) (f9 : Nat → UInt64), gi τ' 10 = kq → ¬ kq = 0 → gG p l e room_1 s m args below meth c D (cyT cy) A0 9 Q (LW cy Ac aK Am qo qd σ τ fo f9) (k + 1) (n + 6) 2223 [(0, .ref b), (1, .ref (Ac 0)), (2, .ref (Am 0)), (3, .ref qo), (4, .ref qd), (5, .int i)] [.int kq] := by
        intro kq f9 hq hne
        have fin : gG p l e room_1 s m args below meth c D (cyT cy) A0 9 Q (LW cy Ac aK Am qo qd σ τ' fo f9) (k + 1) (n + 6) 2286 [(7, .float v), (6, .int kq), (0, .ref b), (1, .ref (Ac 0)), (2, .ref (Am 0)), (3, .ref qo), (4, .ref qd), (5, .int i)] [] := g_goto X (tgt := 2302) dL_law_2286 (by decide) (g_sub [2, 3, 4, 5, 6, 7] rfl (g_wid (Nat.add_le_add_left (by decide) k) (Nat.add_le_add_left (by decide) n) (kk _ _ _ _ _ hR)))
        refine g_istore X dL_law_2223 (by decide) (lv' := [(6, .int kq), (0, .ref b), (1, .ref (Ac 0)), (2, .ref (Am 0)), (3, .ref qo), (4, .ref qd), (5, .int i)]) rfl ?_
        refine g_aload_n X dL_law_2225 rfl 3 rfl ?_
        refine g_aload_n X dL_law_2226 rfl 1 rfl ?_
        refine g_iload X dL_law_2227 6 rfl ?_
        refine g_iconst X dL_law_2229 (v := (1 : Int32)) (by decide) ?_
        refine g_iadd X dL_law_2230 ?_
        refine g_scld X hX hbl hbA h1 dL_law_2231 ?_
        refine g_perm (LW_perm cy Ac aK Am qo qd σ τ fo f9) ?_
        refine g_callVF (AD := Am) (E := mE cy Am) (L := mLs) (As := [.int (xs (i + (1 : Int32)).toNatClampNeg)]) X (ZL_ok _ _ _ _ _) (mF_up (m_X11_risingShare hm)) (cwV 1 X.1.2.2.2.2 gZ_law_X11_risingShare rfl rfl rfl (by decide +kernel) ⟨Nat.le_of_ble_eq_true rfl, Nat.le_of_ble_eq_true rfl⟩) rfl mm0 (mE_0 cy Am τ) rfl rfl (Nat.le_of_ble_eq_true rfl) ⟨Nat.le_trans (Nat.add_le_add_left (by decide : 1 ≤ 4) k) hk, Nat.le_trans (Nat.add_le_add_left (by decide : 6 ≤ 24) n) hn⟩ dL_law_2232 ?_
        refine g_perm (LW_perm cy Ac aK Am qo qd σ τ' fo f9).symm ?_
        refine g_fstore X dL_law_2235 (by decide) (lv' := [(7, .float v), (6, .int kq), (0, .ref b), (1, .ref (Ac 0)), (2, .ref (Am 0)), (3, .ref qo), (4, .ref qd), (5, .int i)]) rfl ?_
        refine g_aload_n X dL_law_2237 rfl 4 rfl ?_
        refine g_perm (LW_perm cy Ac aK Am qo qd σ τ' fo f9) ?_
        refine g_callVI (AD := Am) (E := mE cy Am) (L := mLs) (As := []) X (ZL_ok _ _ _ _ _) (mI_up (m_X11_thrown (σ := τ') (r := gi τ' 10) rfl)) (cwV 0 X.1.2.2.2.2 gZ_law_X11_thrown rfl rfl rfl (by decide +kernel) ⟨Nat.le_of_ble_eq_true rfl, Nat.le_of_ble_eq_true rfl⟩) rfl mm0 (mE_0 cy Am τ') rfl rfl (Nat.le_of_ble_eq_true rfl) ⟨Nat.le_trans (Nat.add_le_add_left (by decide : 1 ≤ 4) k) hk, Nat.le_trans (Nat.add_le_add_left (by decide : 6 ≤ 24) n) hn⟩ dL_law_2238 ?_
        refine g_perm (LW_perm cy Ac aK Am qo qd σ τ' fo f9).symm ?_
        refine g_iload X dL_law_2241 1 rfl ?_
        refine g_icmp_eq X (tgt := 2248) dL_law_2243 (by decide) (fun _ => ?_) (fun z => absurd hq z)
        refine g_iload X dL_law_2248 1 rfl ?_
        refine g_if_ne X (tgt := 2286) dL_law_2250 (by decide) (fun _ => fin) (fun z => absurd z hne)
      refine g_lawS (Wf := (oD cy Ac aK qo (.inl (cy 5, 1, .inr (.inl fo))) qd (wF Am (mE cy Am) mLs [] τ))) (u := (σ, fd)) (u' := (σ, fd)) (As := [.ref (Ac 0), .int (xs (i + (1 : Int32)).toNatClampNeg), .ref qd]) X (ZL_ok _ _ _ _ _) (w_risingShare_x1 hl hc) (vx_cwSW 3 X.1.2.2.2.2 gZ_law_L_risingShare rfl rfl rfl (by decide +kernel) ⟨Nat.le_of_ble_eq_true rfl, Nat.le_of_ble_eq_true rfl⟩) rfl rfl (Nat.le_of_ble_eq_true rfl) ⟨Nat.le_trans (Nat.add_le_add_left (by decide : 1 ≤ 4) k) hk, Nat.le_trans (Nat.add_le_add_left (by decide : 6 ≤ 24) n) hn⟩ dL_law_2220 (k' := (k + 1)) (n' := (n + 6)) (Nat.le_refl _) (Nat.le_refl _) rfl rfl ?_
      exact tail 1 _ h0 (by decide)
    | j + 1, hE, _ => exact nomatch hE
set_option maxHeartbeats 8000000 in
set_option maxRecDepth 100000 in
theorem law_c35 (X : gC (ZL aK aO aS aV aT) p s m args meth c D (cyT cy) A0 cL_law wzL_law RL 9 ret) (hl : l.stackTraces = false) (hX : va_X b L xs s s.heap) (hbl : b < s.heap.size) (hbA : ¬ A0 b) (h1 : vp_in (i + (1 : Int32)) L) (h2 : vp_in (i + (2 : Int32)) L) (h3 : vp_in (i + (3 : Int32)) L) (h4 : vp_in (i + (4 : Int32)) L) (hk : k + 4 ≤ room_1.cells) (hn : n + 24 ≤ room_1.slots) (h : REL a σ τ)
    (kk : ∀ (σ' τ' : St) (a' : AS) (fo' : Nat → Int64) (fd' : Nat → UInt64), REL a' σ' τ' → gG p l e room_1 s m args below meth c D (cyT cy) A0 9 Q (LW cy Ac aK Am qo qd σ' τ' fo' fd') (k + 4) (n + 24) 2302 [(0, .ref b), (1, .ref (Ac 0)), (2, .ref (Am 0)), (3, .ref qo), (4, .ref qd), (5, .int i)] []) : gG p l e room_1 s m args below meth c D (cyT cy) A0 9 Q (LW cy Ac aK Am qo qd σ τ fo fd) k n 2289 [(0, .ref b), (1, .ref (Ac 0)), (2, .ref (Am 0)), (3, .ref qo), (4, .ref qd), (5, .int i)] [] := by
  obtain ⟨x, σ', τ', a', hc, hm, hR⟩ := P_errors h
  refine g_aload_n X dL_law_2289 rfl 1 rfl ?_
  refine g_callVI (AD := Ac) (E := cE cy Ac aK) (L := cL) (As := []) X (ZL_ok _ _ _ _ _) (mI_up (m_X10_errors hc)) (cwV 0 X.1.2.2.2.2 gZ_law_X10_errors rfl rfl rfl (by decide +kernel) ⟨Nat.le_of_ble_eq_true rfl, Nat.le_of_ble_eq_true rfl⟩) rfl cm0 (cE_0 cy Ac aK σ) rfl rfl (Nat.le_of_ble_eq_true rfl) ⟨Nat.le_trans (Nat.add_le_add_left (by decide : 0 ≤ 4) k) hk, Nat.le_trans (Nat.add_le_add_left (by decide : 0 ≤ 24) n) hn⟩ dL_law_2290 ?_
  refine g_aload_n X dL_law_2293 rfl 2 rfl ?_
  refine g_perm (LW_perm cy Ac aK Am qo qd σ' τ fo fd) ?_
  refine g_callVI (AD := Am) (E := mE cy Am) (L := mLs) (As := []) X (ZL_ok _ _ _ _ _) (mI_up (m_X11_errors hm)) (cwV 0 X.1.2.2.2.2 gZ_law_X11_errors rfl rfl rfl (by decide +kernel) ⟨Nat.le_of_ble_eq_true rfl, Nat.le_of_ble_eq_true rfl⟩) rfl mm0 (mE_0 cy Am τ) rfl rfl (Nat.le_of_ble_eq_true rfl) ⟨Nat.le_trans (Nat.add_le_add_left (by decide : 0 ≤ 4) k) hk, Nat.le_trans (Nat.add_le_add_left (by decide : 0 ≤ 24) n) hn⟩ dL_law_2294 ?_
  refine g_perm (LW_perm cy Ac aK Am qo qd σ' τ' fo fd).symm ?_
  refine g_icmp_eq X (tgt := 2302) dL_law_2297 (by decide) (fun _ => g_wid (Nat.le_add_right _ _) (Nat.le_add_right _ _) (kk _ _ _ _ _ hR)) (fun z => absurd rfl z)
end LC
