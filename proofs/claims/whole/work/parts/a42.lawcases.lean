section LC
variable {p : Program} {l : Launch} {e : Env} {s : State} {m : MethodId} {args : Array Value} {below : List Frame} {meth : Method} {c : Code} {D : va_G} {A0 : Nat → Prop} {Q : State → Prop} {cy : Nat → ClassId} {Ac aK Am aO aS aV aT : Nat → Nat} {qo qd b L k n : Nat} {xs : Nat → Int32} {i : Int32} {fo : Nat → Int64} {fd : Nat → UInt64} {a : AS} {σ τ : St}
set_option maxHeartbeats 8000000 in
set_option maxRecDepth 100000 in
theorem law_c13 (X : gC (ZL aK aO aS aV aT) p s m args meth c D (cyT cy) A0 cL_law wzL_law RL 9 ret) (hl : l.stackTraces = false) (hX : va_X b L xs s s.heap) (hbl : b < s.heap.size) (hbA : ¬ A0 b) (h1 : vp_in (i + (1 : Int32)) L) (h2 : vp_in (i + (2 : Int32)) L) (h3 : vp_in (i + (3 : Int32)) L) (h4 : vp_in (i + (4 : Int32)) L) (hk : k + 4 ≤ room_1.cells) (hn : n + 24 ≤ room_1.slots) (h : REL a σ τ)
    (kk : ∀ (σ' τ' : St) (a' : AS) (fo' : Nat → Int64) (fd' : Nat → UInt64), REL a' σ' τ' → gG p l e room_1 s m args below meth c D (cyT cy) A0 9 Q (LW cy Ac aK Am qo qd σ' τ' fo' fd') (k + 4) (n + 24) 2302 [(0, .ref b), (1, .ref (Ac 0)), (2, .ref (Am 0)), (3, .ref qo), (4, .ref qd), (5, .int i)] []) : gG p l e room_1 s m args below meth c D (cyT cy) A0 9 Q (LW cy Ac aK Am qo qd σ τ fo fd) k n 900 [(0, .ref b), (1, .ref (Ac 0)), (2, .ref (Am 0)), (3, .ref qo), (4, .ref qd), (5, .int i)] [] := by
  obtain ⟨r, σ', v, τ', a', hc, hm, hR, ho⟩ := P_deal h ((xs (i + (1 : Int32)).toNatClampNeg)) ((xs (i + (2 : Int32)).toNatClampNeg))
  refine g_aload_n X dL_law_900 rfl 1 rfl ?_
  refine g_aload_n X dL_law_901 rfl 0 rfl ?_
  refine g_iload X dL_law_902 5 rfl ?_
  refine g_iconst X dL_law_904 (v := (1 : Int32)) (by decide) ?_
  refine g_iadd X dL_law_905 ?_
  refine g_scld X hX hbl hbA h1 dL_law_906 ?_
  refine g_aload_n X dL_law_907 rfl 0 rfl ?_
  refine g_iload X dL_law_908 5 rfl ?_
  refine g_iconst X dL_law_910 (v := (2 : Int32)) (by decide) ?_
  refine g_iadd X dL_law_911 ?_
  refine g_scld X hX hbl hbA h2 dL_law_912 ?_
  refine g_aload_n X dL_law_913 rfl 3 rfl ?_
  have tail : ∀ (kq : Int32) (f9 : Nat → Int64), gi τ' 10 = kq → (kq = 0 → f9 0 = v.toInt64) → gG p l e room_1 s m args below meth c D (cyT cy) A0 9 Q (LW cy Ac aK Am qo qd σ' τ f9 fd) (k + 4) (n + 24) 917 [(0, .ref b), (1, .ref (Ac 0)), (2, .ref (Am 0)), (3, .ref qo), (4, .ref qd), (5, .int i)] [.int kq] := by
    intro kq f9 hq hf
    have fin : gG p l e room_1 s m args below meth c D (cyT cy) A0 9 Q (LW cy Ac aK Am qo qd σ' τ' f9 fd) (k + 4) (n + 24) 965 [(7, .int v), (6, .int kq), (0, .ref b), (1, .ref (Ac 0)), (2, .ref (Am 0)), (3, .ref qo), (4, .ref qd), (5, .int i)] [] := g_goto X (tgt := 2302) dL_law_965 (by decide) (g_sub [2, 3, 4, 5, 6, 7] rfl (g_wid (Nat.add_le_add_left (by decide) k) (Nat.add_le_add_left (by decide) n) (kk _ _ _ _ _ hR)))
    refine g_istore X dL_law_917 (by decide) (lv' := [(6, .int kq), (0, .ref b), (1, .ref (Ac 0)), (2, .ref (Am 0)), (3, .ref qo), (4, .ref qd), (5, .int i)]) rfl ?_
    refine g_aload_n X dL_law_919 rfl 3 rfl ?_
    refine g_aload_n X dL_law_920 rfl 1 rfl ?_
    refine g_iload X dL_law_921 6 rfl ?_
    refine g_iconst X dL_law_923 (v := (1 : Int32)) (by decide) ?_
    refine g_iadd X dL_law_924 ?_
    refine g_scld X hX hbl hbA h1 dL_law_925 ?_
    refine g_aload_n X dL_law_926 rfl 1 rfl ?_
    refine g_iload X dL_law_927 6 rfl ?_
    refine g_iconst X dL_law_929 (v := (2 : Int32)) (by decide) ?_
    refine g_iadd X dL_law_930 ?_
    refine g_scld X hX hbl hbA h2 dL_law_931 ?_
    refine g_perm (LW_perm cy Ac aK Am qo qd σ' τ f9 fd) ?_
    refine g_callVI (AD := Am) (E := mE cy Am) (L := mLs) (As := [.int (xs (i + (1 : Int32)).toNatClampNeg), .int (xs (i + (2 : Int32)).toNatClampNeg)]) X (ZL_ok _ _ _ _ _) (mI_up (m_X11_deal hm)) (cwV 2 X.1.2.2.2.2 gZ_law_X11_deal rfl rfl rfl (by decide +kernel) ⟨Nat.le_of_ble_eq_true rfl, Nat.le_of_ble_eq_true rfl⟩) rfl mm0 (mE_0 cy Am τ) rfl rfl (Nat.le_of_ble_eq_true rfl) ⟨Nat.le_trans (Nat.add_le_add_left (by decide : 4 ≤ 4) k) hk, Nat.le_trans (Nat.add_le_add_left (by decide : 24 ≤ 24) n) hn⟩ dL_law_932 ?_
    refine g_perm (LW_perm cy Ac aK Am qo qd σ' τ' f9 fd).symm ?_
    refine g_istore X dL_law_935 (by decide) (lv' := [(7, .int v), (6, .int kq), (0, .ref b), (1, .ref (Ac 0)), (2, .ref (Am 0)), (3, .ref qo), (4, .ref qd), (5, .int i)]) rfl ?_
    refine g_aload_n X dL_law_937 rfl 4 rfl ?_
    refine g_perm (LW_perm cy Ac aK Am qo qd σ' τ' f9 fd) ?_
    refine g_callVI (AD := Am) (E := mE cy Am) (L := mLs) (As := []) X (ZL_ok _ _ _ _ _) (mI_up (m_X11_thrown (σ := τ') (r := gi τ' 10) rfl)) (cwV 0 X.1.2.2.2.2 gZ_law_X11_thrown rfl rfl rfl (by decide +kernel) ⟨Nat.le_of_ble_eq_true rfl, Nat.le_of_ble_eq_true rfl⟩) rfl mm0 (mE_0 cy Am τ') rfl rfl (Nat.le_of_ble_eq_true rfl) ⟨Nat.le_trans (Nat.add_le_add_left (by decide : 4 ≤ 4) k) hk, Nat.le_trans (Nat.add_le_add_left (by decide : 24 ≤ 24) n) hn⟩ dL_law_938 ?_
    refine g_perm (LW_perm cy Ac aK Am qo qd σ' τ' f9 fd).symm ?_
    refine g_iload X dL_law_941 1 rfl ?_
    refine g_icmp_eq X (tgt := 948) dL_law_943 (by decide) (fun _ => ?_) (fun z => absurd hq z)
    refine g_iload X dL_law_948 1 rfl ?_
    refine g_if_ne X (tgt := 965) dL_law_950 (by decide) (fun _ => fin) (fun z => ?_)
    refine g_aload_n X dL_law_953 rfl 5 rfl ?_
    refine g_iconst X dL_law_954 (v := (0 : Int32)) (by decide) ?_
    refine g_lald X 85 5 (cW_85 _ _ _ _ _) rfl (vp_in_nI (n := 0) (N := 1) (by decide) (by decide)) dL_law_955 ?_
    have hf := hf z
    refine g_iload X dL_law_956 0 rfl ?_
    refine g_i2l X dL_law_958 ?_
    refine g_lcmp X dL_law_959 ?_
    refine g_if_eq X (tgt := 965) dL_law_960 (by decide) (fun _ => fin) (fun z2 => absurd (show lg_cmp (f9 0) (v.toInt64) = 0 by rw [show f9 0 = v.toInt64 from hf]; exact cmp_self _) z2)
  rcases ho with ⟨x, rfl, rfl, h0⟩ | ⟨j, E9, rfl, hE, h0⟩
  · refine g_lawS (Wf := (oL cy Ac aK qo ((qd, .inl (cy 6, 1, .inr (.inr (.inr (.inl fd))))) :: wF Am (mE cy Am) mLs [] τ))) (u := (σ, fo)) (u' := (σ', (vp_updL fo 0 v.toInt64))) (As := [.ref (Ac 0), .int (xs (i + (1 : Int32)).toNatClampNeg), .int (xs (i + (2 : Int32)).toNatClampNeg), .ref qo]) X (ZL_ok _ _ _ _ _) (w_deal_ok hl hc) (vx_cwSW 4 X.1.2.2.2.2 gZ_law_L_deal rfl rfl rfl (by decide +kernel) ⟨Nat.le_of_ble_eq_true rfl, Nat.le_of_ble_eq_true rfl⟩) rfl rfl (Nat.le_of_ble_eq_true rfl) ⟨Nat.le_trans (Nat.add_le_add_left (by decide : 4 ≤ 4) k) hk, Nat.le_trans (Nat.add_le_add_left (by decide : 24 ≤ 24) n) hn⟩ dL_law_914 (k' := (k + 4)) (n' := (n + 24)) (Nat.le_refl _) (Nat.le_refl _) rfl rfl ?_
    exact tail 0 _ h0 (fun _ => rfl)
  · match j, hE, h0 with
    | 0, hE, h0 =>
      cases hE
      refine g_lawS (Wf := (oL cy Ac aK qo ((qd, .inl (cy 6, 1, .inr (.inr (.inr (.inl fd))))) :: wF Am (mE cy Am) mLs [] τ))) (u := (σ, fo)) (u' := (σ', fo)) (As := [.ref (Ac 0), .int (xs (i + (1 : Int32)).toNatClampNeg), .int (xs (i + (2 : Int32)).toNatClampNeg), .ref qo]) X (ZL_ok _ _ _ _ _) (w_deal_x1 hl hc) (vx_cwSW 4 X.1.2.2.2.2 gZ_law_L_deal rfl rfl rfl (by decide +kernel) ⟨Nat.le_of_ble_eq_true rfl, Nat.le_of_ble_eq_true rfl⟩) rfl rfl (Nat.le_of_ble_eq_true rfl) ⟨Nat.le_trans (Nat.add_le_add_left (by decide : 4 ≤ 4) k) hk, Nat.le_trans (Nat.add_le_add_left (by decide : 24 ≤ 24) n) hn⟩ dL_law_914 (k' := (k + 4)) (n' := (n + 24)) (Nat.le_refl _) (Nat.le_refl _) rfl rfl ?_
      exact tail 1 _ h0 (fun z => absurd z (by decide))
    | 1, hE, h0 =>
      cases hE
      refine g_lawS (Wf := (oL cy Ac aK qo ((qd, .inl (cy 6, 1, .inr (.inr (.inr (.inl fd))))) :: wF Am (mE cy Am) mLs [] τ))) (u := (σ, fo)) (u' := (σ', fo)) (As := [.ref (Ac 0), .int (xs (i + (1 : Int32)).toNatClampNeg), .int (xs (i + (2 : Int32)).toNatClampNeg), .ref qo]) X (ZL_ok _ _ _ _ _) (w_deal_x2 hl hc) (vx_cwSW 4 X.1.2.2.2.2 gZ_law_L_deal rfl rfl rfl (by decide +kernel) ⟨Nat.le_of_ble_eq_true rfl, Nat.le_of_ble_eq_true rfl⟩) rfl rfl (Nat.le_of_ble_eq_true rfl) ⟨Nat.le_trans (Nat.add_le_add_left (by decide : 4 ≤ 4) k) hk, Nat.le_trans (Nat.add_le_add_left (by decide : 24 ≤ 24) n) hn⟩ dL_law_914 (k' := (k + 4)) (n' := (n + 24)) (Nat.le_refl _) (Nat.le_refl _) rfl rfl ?_
      exact tail 2 _ h0 (fun z => absurd z (by decide))
    | 2, hE, h0 =>
      cases hE
      refine g_lawS (Wf := (oL cy Ac aK qo ((qd, .inl (cy 6, 1, .inr (.inr (.inr (.inl fd))))) :: wF Am (mE cy Am) mLs [] τ))) (u := (σ, fo)) (u' := (σ', fo)) (As := [.ref (Ac 0), .int (xs (i + (1 : Int32)).toNatClampNeg), .int (xs (i + (2 : Int32)).toNatClampNeg), .ref qo]) X (ZL_ok _ _ _ _ _) (w_deal_x3 hl hc) (vx_cwSW 4 X.1.2.2.2.2 gZ_law_L_deal rfl rfl rfl (by decide +kernel) ⟨Nat.le_of_ble_eq_true rfl, Nat.le_of_ble_eq_true rfl⟩) rfl rfl (Nat.le_of_ble_eq_true rfl) ⟨Nat.le_trans (Nat.add_le_add_left (by decide : 4 ≤ 4) k) hk, Nat.le_trans (Nat.add_le_add_left (by decide : 24 ≤ 24) n) hn⟩ dL_law_914 (k' := (k + 4)) (n' := (n + 24)) (Nat.le_refl _) (Nat.le_refl _) rfl rfl ?_
      exact tail 3 _ h0 (fun z => absurd z (by decide))
    | j + 3, hE, _ => exact nomatch hE
set_option maxHeartbeats 8000000 in
set_option maxRecDepth 100000 in
theorem law_c14 (X : gC (ZL aK aO aS aV aT) p s m args meth c D (cyT cy) A0 cL_law wzL_law RL 9 ret) (hl : l.stackTraces = false) (hX : va_X b L xs s s.heap) (hbl : b < s.heap.size) (hbA : ¬ A0 b) (h1 : vp_in (i + (1 : Int32)) L) (h2 : vp_in (i + (2 : Int32)) L) (h3 : vp_in (i + (3 : Int32)) L) (h4 : vp_in (i + (4 : Int32)) L) (hk : k + 4 ≤ room_1.cells) (hn : n + 24 ≤ room_1.slots) (h : REL a σ τ)
    (kk : ∀ (σ' τ' : St) (a' : AS) (fo' : Nat → Int64) (fd' : Nat → UInt64), REL a' σ' τ' → gG p l e room_1 s m args below meth c D (cyT cy) A0 9 Q (LW cy Ac aK Am qo qd σ' τ' fo' fd') (k + 4) (n + 24) 2302 [(0, .ref b), (1, .ref (Ac 0)), (2, .ref (Am 0)), (3, .ref qo), (4, .ref qd), (5, .int i)] []) : gG p l e room_1 s m args below meth c D (cyT cy) A0 9 Q (LW cy Ac aK Am qo qd σ τ fo fd) k n 968 [(0, .ref b), (1, .ref (Ac 0)), (2, .ref (Am 0)), (3, .ref qo), (4, .ref qd), (5, .int i)] [] := by
  obtain ⟨r, σ', v, τ', a', hc, hm, hR, ho⟩ := P_turn h ((xs (i + (1 : Int32)).toNatClampNeg))
  refine g_aload_n X dL_law_968 rfl 1 rfl ?_
  refine g_aload_n X dL_law_969 rfl 0 rfl ?_
  refine g_iload X dL_law_970 5 rfl ?_
  refine g_iconst X dL_law_972 (v := (1 : Int32)) (by decide) ?_
  refine g_iadd X dL_law_973 ?_
  refine g_scld X hX hbl hbA h1 dL_law_974 ?_
  refine g_aload_n X dL_law_975 rfl 3 rfl ?_
  have tail : ∀ (kq : Int32) (f9 : Nat → Int64), gi τ' 10 = kq → (kq = 0 → f9 0 = v.toInt64) → gG p l e room_1 s m args below meth c D (cyT cy) A0 9 Q (LW cy Ac aK Am qo qd σ' τ f9 fd) (k + 1) (n + 6) 979 [(0, .ref b), (1, .ref (Ac 0)), (2, .ref (Am 0)), (3, .ref qo), (4, .ref qd), (5, .int i)] [.int kq] := by
    intro kq f9 hq hf
    have fin : gG p l e room_1 s m args below meth c D (cyT cy) A0 9 Q (LW cy Ac aK Am qo qd σ' τ' f9 fd) (k + 1) (n + 6) 1021 [(7, .int v), (6, .int kq), (0, .ref b), (1, .ref (Ac 0)), (2, .ref (Am 0)), (3, .ref qo), (4, .ref qd), (5, .int i)] [] := g_goto X (tgt := 2302) dL_law_1021 (by decide) (g_sub [2, 3, 4, 5, 6, 7] rfl (g_wid (Nat.add_le_add_left (by decide) k) (Nat.add_le_add_left (by decide) n) (kk _ _ _ _ _ hR)))
    refine g_istore X dL_law_979 (by decide) (lv' := [(6, .int kq), (0, .ref b), (1, .ref (Ac 0)), (2, .ref (Am 0)), (3, .ref qo), (4, .ref qd), (5, .int i)]) rfl ?_
    refine g_aload_n X dL_law_981 rfl 3 rfl ?_
    refine g_aload_n X dL_law_982 rfl 1 rfl ?_
    refine g_iload X dL_law_983 6 rfl ?_
    refine g_iconst X dL_law_985 (v := (1 : Int32)) (by decide) ?_
    refine g_iadd X dL_law_986 ?_
    refine g_scld X hX hbl hbA h1 dL_law_987 ?_
    refine g_perm (LW_perm cy Ac aK Am qo qd σ' τ f9 fd) ?_
    refine g_callVI (AD := Am) (E := mE cy Am) (L := mLs) (As := [.int (xs (i + (1 : Int32)).toNatClampNeg)]) X (ZL_ok _ _ _ _ _) (mI_up (m_X11_turn hm)) (cwV 1 X.1.2.2.2.2 gZ_law_X11_turn rfl rfl rfl (by decide +kernel) ⟨Nat.le_of_ble_eq_true rfl, Nat.le_of_ble_eq_true rfl⟩) rfl mm0 (mE_0 cy Am τ) rfl rfl (Nat.le_of_ble_eq_true rfl) ⟨Nat.le_trans (Nat.add_le_add_left (by decide : 1 ≤ 4) k) hk, Nat.le_trans (Nat.add_le_add_left (by decide : 6 ≤ 24) n) hn⟩ dL_law_988 ?_
    refine g_perm (LW_perm cy Ac aK Am qo qd σ' τ' f9 fd).symm ?_
    refine g_istore X dL_law_991 (by decide) (lv' := [(7, .int v), (6, .int kq), (0, .ref b), (1, .ref (Ac 0)), (2, .ref (Am 0)), (3, .ref qo), (4, .ref qd), (5, .int i)]) rfl ?_
    refine g_aload_n X dL_law_993 rfl 4 rfl ?_
    refine g_perm (LW_perm cy Ac aK Am qo qd σ' τ' f9 fd) ?_
    refine g_callVI (AD := Am) (E := mE cy Am) (L := mLs) (As := []) X (ZL_ok _ _ _ _ _) (mI_up (m_X11_thrown (σ := τ') (r := gi τ' 10) rfl)) (cwV 0 X.1.2.2.2.2 gZ_law_X11_thrown rfl rfl rfl (by decide +kernel) ⟨Nat.le_of_ble_eq_true rfl, Nat.le_of_ble_eq_true rfl⟩) rfl mm0 (mE_0 cy Am τ') rfl rfl (Nat.le_of_ble_eq_true rfl) ⟨Nat.le_trans (Nat.add_le_add_left (by decide : 1 ≤ 4) k) hk, Nat.le_trans (Nat.add_le_add_left (by decide : 6 ≤ 24) n) hn⟩ dL_law_994 ?_
    refine g_perm (LW_perm cy Ac aK Am qo qd σ' τ' f9 fd).symm ?_
    refine g_iload X dL_law_997 1 rfl ?_
    refine g_icmp_eq X (tgt := 1004) dL_law_999 (by decide) (fun _ => ?_) (fun z => absurd hq z)
    refine g_iload X dL_law_1004 1 rfl ?_
    refine g_if_ne X (tgt := 1021) dL_law_1006 (by decide) (fun _ => fin) (fun z => ?_)
    refine g_aload_n X dL_law_1009 rfl 5 rfl ?_
    refine g_iconst X dL_law_1010 (v := (0 : Int32)) (by decide) ?_
    refine g_lald X 85 5 (cW_85 _ _ _ _ _) rfl (vp_in_nI (n := 0) (N := 1) (by decide) (by decide)) dL_law_1011 ?_
    have hf := hf z
    refine g_iload X dL_law_1012 0 rfl ?_
    refine g_i2l X dL_law_1014 ?_
    refine g_lcmp X dL_law_1015 ?_
    refine g_if_eq X (tgt := 1021) dL_law_1016 (by decide) (fun _ => fin) (fun z2 => absurd (show lg_cmp (f9 0) (v.toInt64) = 0 by rw [show f9 0 = v.toInt64 from hf]; exact cmp_self _) z2)
  rcases ho with ⟨x, rfl, rfl, h0⟩ | ⟨j, E9, rfl, hE, h0⟩
  · refine g_lawS (Wf := (oL cy Ac aK qo ((qd, .inl (cy 6, 1, .inr (.inr (.inr (.inl fd))))) :: wF Am (mE cy Am) mLs [] τ))) (u := (σ, fo)) (u' := (σ', (vp_updL fo 0 v.toInt64))) (As := [.ref (Ac 0), .int (xs (i + (1 : Int32)).toNatClampNeg), .ref qo]) X (ZL_ok _ _ _ _ _) (w_turn_ok hl hc) (vx_cwSW 3 X.1.2.2.2.2 gZ_law_L_turn rfl rfl rfl (by decide +kernel) ⟨Nat.le_of_ble_eq_true rfl, Nat.le_of_ble_eq_true rfl⟩) rfl rfl (Nat.le_of_ble_eq_true rfl) ⟨Nat.le_trans (Nat.add_le_add_left (by decide : 1 ≤ 4) k) hk, Nat.le_trans (Nat.add_le_add_left (by decide : 6 ≤ 24) n) hn⟩ dL_law_976 (k' := (k + 1)) (n' := (n + 6)) (Nat.le_refl _) (Nat.le_refl _) rfl rfl ?_
    exact tail 0 _ h0 (fun _ => rfl)
  · match j, hE, h0 with
    | 0, hE, h0 =>
      cases hE
      refine g_lawS (Wf := (oL cy Ac aK qo ((qd, .inl (cy 6, 1, .inr (.inr (.inr (.inl fd))))) :: wF Am (mE cy Am) mLs [] τ))) (u := (σ, fo)) (u' := (σ', fo)) (As := [.ref (Ac 0), .int (xs (i + (1 : Int32)).toNatClampNeg), .ref qo]) X (ZL_ok _ _ _ _ _) (w_turn_x1 hl hc) (vx_cwSW 3 X.1.2.2.2.2 gZ_law_L_turn rfl rfl rfl (by decide +kernel) ⟨Nat.le_of_ble_eq_true rfl, Nat.le_of_ble_eq_true rfl⟩) rfl rfl (Nat.le_of_ble_eq_true rfl) ⟨Nat.le_trans (Nat.add_le_add_left (by decide : 1 ≤ 4) k) hk, Nat.le_trans (Nat.add_le_add_left (by decide : 6 ≤ 24) n) hn⟩ dL_law_976 (k' := (k + 1)) (n' := (n + 6)) (Nat.le_refl _) (Nat.le_refl _) rfl rfl ?_
      exact tail 1 _ h0 (fun z => absurd z (by decide))
    | j + 1, hE, _ => exact nomatch hE
set_option maxHeartbeats 8000000 in
set_option maxRecDepth 100000 in
theorem law_c15 (X : gC (ZL aK aO aS aV aT) p s m args meth c D (cyT cy) A0 cL_law wzL_law RL 9 ret) (hl : l.stackTraces = false) (hX : va_X b L xs s s.heap) (hbl : b < s.heap.size) (hbA : ¬ A0 b) (h1 : vp_in (i + (1 : Int32)) L) (h2 : vp_in (i + (2 : Int32)) L) (h3 : vp_in (i + (3 : Int32)) L) (h4 : vp_in (i + (4 : Int32)) L) (hk : k + 4 ≤ room_1.cells) (hn : n + 24 ≤ room_1.slots) (h : REL a σ τ)
    (kk : ∀ (σ' τ' : St) (a' : AS) (fo' : Nat → Int64) (fd' : Nat → UInt64), REL a' σ' τ' → gG p l e room_1 s m args below meth c D (cyT cy) A0 9 Q (LW cy Ac aK Am qo qd σ' τ' fo' fd') (k + 4) (n + 24) 2302 [(0, .ref b), (1, .ref (Ac 0)), (2, .ref (Am 0)), (3, .ref qo), (4, .ref qd), (5, .int i)] []) : gG p l e room_1 s m args below meth c D (cyT cy) A0 9 Q (LW cy Ac aK Am qo qd σ τ fo fd) k n 1024 [(0, .ref b), (1, .ref (Ac 0)), (2, .ref (Am 0)), (3, .ref qo), (4, .ref qd), (5, .int i)] [] := by
  obtain ⟨r, σ', v, τ', a', hc, hm, hR, ho⟩ := P_move h ((xs (i + (1 : Int32)).toNatClampNeg)) ((xs (i + (2 : Int32)).toNatClampNeg)) ((xs (i + (3 : Int32)).toNatClampNeg))
  refine g_aload_n X dL_law_1024 rfl 1 rfl ?_
  refine g_aload_n X dL_law_1025 rfl 0 rfl ?_
  refine g_iload X dL_law_1026 5 rfl ?_
  refine g_iconst X dL_law_1028 (v := (1 : Int32)) (by decide) ?_
  refine g_iadd X dL_law_1029 ?_
  refine g_scld X hX hbl hbA h1 dL_law_1030 ?_
  refine g_aload_n X dL_law_1031 rfl 0 rfl ?_
  refine g_iload X dL_law_1032 5 rfl ?_
  refine g_iconst X dL_law_1034 (v := (2 : Int32)) (by decide) ?_
  refine g_iadd X dL_law_1035 ?_
  refine g_scld X hX hbl hbA h2 dL_law_1036 ?_
  refine g_aload_n X dL_law_1037 rfl 0 rfl ?_
  refine g_iload X dL_law_1038 5 rfl ?_
  refine g_iconst X dL_law_1040 (v := (3 : Int32)) (by decide) ?_
  refine g_iadd X dL_law_1041 ?_
  refine g_scld X hX hbl hbA h3 dL_law_1042 ?_
  refine g_aload_n X dL_law_1043 rfl 3 rfl ?_
  have tail : ∀ (kq : Int32) (f9 : Nat → Int64), gi τ' 10 = kq → (kq = 0 → f9 0 = v.toInt64) → gG p l e room_1 s m args below meth c D (cyT cy) A0 9 Q (LW cy Ac aK Am qo qd σ' τ f9 fd) (k + 3) (n + 18) 1047 [(0, .ref b), (1, .ref (Ac 0)), (2, .ref (Am 0)), (3, .ref qo), (4, .ref qd), (5, .int i)] [.int kq] := by
    intro kq f9 hq hf
    have fin : gG p l e room_1 s m args below meth c D (cyT cy) A0 9 Q (LW cy Ac aK Am qo qd σ' τ' f9 fd) (k + 3) (n + 18) 1101 [(7, .int v), (6, .int kq), (0, .ref b), (1, .ref (Ac 0)), (2, .ref (Am 0)), (3, .ref qo), (4, .ref qd), (5, .int i)] [] := g_goto X (tgt := 2302) dL_law_1101 (by decide) (g_sub [2, 3, 4, 5, 6, 7] rfl (g_wid (Nat.add_le_add_left (by decide) k) (Nat.add_le_add_left (by decide) n) (kk _ _ _ _ _ hR)))
    refine g_istore X dL_law_1047 (by decide) (lv' := [(6, .int kq), (0, .ref b), (1, .ref (Ac 0)), (2, .ref (Am 0)), (3, .ref qo), (4, .ref qd), (5, .int i)]) rfl ?_
    refine g_aload_n X dL_law_1049 rfl 3 rfl ?_
    refine g_aload_n X dL_law_1050 rfl 1 rfl ?_
    refine g_iload X dL_law_1051 6 rfl ?_
    refine g_iconst X dL_law_1053 (v := (1 : Int32)) (by decide) ?_
    refine g_iadd X dL_law_1054 ?_
    refine g_scld X hX hbl hbA h1 dL_law_1055 ?_
    refine g_aload_n X dL_law_1056 rfl 1 rfl ?_
    refine g_iload X dL_law_1057 6 rfl ?_
    refine g_iconst X dL_law_1059 (v := (2 : Int32)) (by decide) ?_
    refine g_iadd X dL_law_1060 ?_
    refine g_scld X hX hbl hbA h2 dL_law_1061 ?_
    refine g_aload_n X dL_law_1062 rfl 1 rfl ?_
    refine g_iload X dL_law_1063 6 rfl ?_
    refine g_iconst X dL_law_1065 (v := (3 : Int32)) (by decide) ?_
    refine g_iadd X dL_law_1066 ?_
    refine g_scld X hX hbl hbA h3 dL_law_1067 ?_
    refine g_perm (LW_perm cy Ac aK Am qo qd σ' τ f9 fd) ?_
    refine g_callVI (AD := Am) (E := mE cy Am) (L := mLs) (As := [.int (xs (i + (1 : Int32)).toNatClampNeg), .int (xs (i + (2 : Int32)).toNatClampNeg), .int (xs (i + (3 : Int32)).toNatClampNeg)]) X (ZL_ok _ _ _ _ _) (mI_up (m_X11_move hm)) (cwV 3 X.1.2.2.2.2 gZ_law_X11_move rfl rfl rfl (by decide +kernel) ⟨Nat.le_of_ble_eq_true rfl, Nat.le_of_ble_eq_true rfl⟩) rfl mm0 (mE_0 cy Am τ) rfl rfl (Nat.le_of_ble_eq_true rfl) ⟨Nat.le_trans (Nat.add_le_add_left (by decide : 3 ≤ 4) k) hk, Nat.le_trans (Nat.add_le_add_left (by decide : 18 ≤ 24) n) hn⟩ dL_law_1068 ?_
    refine g_perm (LW_perm cy Ac aK Am qo qd σ' τ' f9 fd).symm ?_
    refine g_istore X dL_law_1071 (by decide) (lv' := [(7, .int v), (6, .int kq), (0, .ref b), (1, .ref (Ac 0)), (2, .ref (Am 0)), (3, .ref qo), (4, .ref qd), (5, .int i)]) rfl ?_
    refine g_aload_n X dL_law_1073 rfl 4 rfl ?_
    refine g_perm (LW_perm cy Ac aK Am qo qd σ' τ' f9 fd) ?_
    refine g_callVI (AD := Am) (E := mE cy Am) (L := mLs) (As := []) X (ZL_ok _ _ _ _ _) (mI_up (m_X11_thrown (σ := τ') (r := gi τ' 10) rfl)) (cwV 0 X.1.2.2.2.2 gZ_law_X11_thrown rfl rfl rfl (by decide +kernel) ⟨Nat.le_of_ble_eq_true rfl, Nat.le_of_ble_eq_true rfl⟩) rfl mm0 (mE_0 cy Am τ') rfl rfl (Nat.le_of_ble_eq_true rfl) ⟨Nat.le_trans (Nat.add_le_add_left (by decide : 3 ≤ 4) k) hk, Nat.le_trans (Nat.add_le_add_left (by decide : 18 ≤ 24) n) hn⟩ dL_law_1074 ?_
    refine g_perm (LW_perm cy Ac aK Am qo qd σ' τ' f9 fd).symm ?_
    refine g_iload X dL_law_1077 1 rfl ?_
    refine g_icmp_eq X (tgt := 1084) dL_law_1079 (by decide) (fun _ => ?_) (fun z => absurd hq z)
    refine g_iload X dL_law_1084 1 rfl ?_
    refine g_if_ne X (tgt := 1101) dL_law_1086 (by decide) (fun _ => fin) (fun z => ?_)
    refine g_aload_n X dL_law_1089 rfl 5 rfl ?_
    refine g_iconst X dL_law_1090 (v := (0 : Int32)) (by decide) ?_
    refine g_lald X 85 5 (cW_85 _ _ _ _ _) rfl (vp_in_nI (n := 0) (N := 1) (by decide) (by decide)) dL_law_1091 ?_
    have hf := hf z
    refine g_iload X dL_law_1092 0 rfl ?_
    refine g_i2l X dL_law_1094 ?_
    refine g_lcmp X dL_law_1095 ?_
    refine g_if_eq X (tgt := 1101) dL_law_1096 (by decide) (fun _ => fin) (fun z2 => absurd (show lg_cmp (f9 0) (v.toInt64) = 0 by rw [show f9 0 = v.toInt64 from hf]; exact cmp_self _) z2)
  rcases ho with ⟨x, rfl, rfl, h0⟩ | ⟨j, E9, rfl, hE, h0⟩
  · refine g_lawS (Wf := (oL cy Ac aK qo ((qd, .inl (cy 6, 1, .inr (.inr (.inr (.inl fd))))) :: wF Am (mE cy Am) mLs [] τ))) (u := (σ, fo)) (u' := (σ', (vp_updL fo 0 v.toInt64))) (As := [.ref (Ac 0), .int (xs (i + (1 : Int32)).toNatClampNeg), .int (xs (i + (2 : Int32)).toNatClampNeg), .int (xs (i + (3 : Int32)).toNatClampNeg), .ref qo]) X (ZL_ok _ _ _ _ _) (w_move_ok hl hc) (vx_cwSW 5 X.1.2.2.2.2 gZ_law_L_move rfl rfl rfl (by decide +kernel) ⟨Nat.le_of_ble_eq_true rfl, Nat.le_of_ble_eq_true rfl⟩) rfl rfl (Nat.le_of_ble_eq_true rfl) ⟨Nat.le_trans (Nat.add_le_add_left (by decide : 3 ≤ 4) k) hk, Nat.le_trans (Nat.add_le_add_left (by decide : 18 ≤ 24) n) hn⟩ dL_law_1044 (k' := (k + 3)) (n' := (n + 18)) (Nat.le_refl _) (Nat.le_refl _) rfl rfl ?_
    exact tail 0 _ h0 (fun _ => rfl)
  · match j, hE, h0 with
    | 0, hE, h0 =>
      cases hE
      refine g_lawS (Wf := (oL cy Ac aK qo ((qd, .inl (cy 6, 1, .inr (.inr (.inr (.inl fd))))) :: wF Am (mE cy Am) mLs [] τ))) (u := (σ, fo)) (u' := (σ', fo)) (As := [.ref (Ac 0), .int (xs (i + (1 : Int32)).toNatClampNeg), .int (xs (i + (2 : Int32)).toNatClampNeg), .int (xs (i + (3 : Int32)).toNatClampNeg), .ref qo]) X (ZL_ok _ _ _ _ _) (w_move_x1 hl hc) (vx_cwSW 5 X.1.2.2.2.2 gZ_law_L_move rfl rfl rfl (by decide +kernel) ⟨Nat.le_of_ble_eq_true rfl, Nat.le_of_ble_eq_true rfl⟩) rfl rfl (Nat.le_of_ble_eq_true rfl) ⟨Nat.le_trans (Nat.add_le_add_left (by decide : 3 ≤ 4) k) hk, Nat.le_trans (Nat.add_le_add_left (by decide : 18 ≤ 24) n) hn⟩ dL_law_1044 (k' := (k + 3)) (n' := (n + 18)) (Nat.le_refl _) (Nat.le_refl _) rfl rfl ?_
      exact tail 1 _ h0 (fun z => absurd z (by decide))
    | j + 1, hE, _ => exact nomatch hE
set_option maxHeartbeats 8000000 in
set_option maxRecDepth 100000 in
theorem law_c16 (X : gC (ZL aK aO aS aV aT) p s m args meth c D (cyT cy) A0 cL_law wzL_law RL 9 ret) (hl : l.stackTraces = false) (hX : va_X b L xs s s.heap) (hbl : b < s.heap.size) (hbA : ¬ A0 b) (h1 : vp_in (i + (1 : Int32)) L) (h2 : vp_in (i + (2 : Int32)) L) (h3 : vp_in (i + (3 : Int32)) L) (h4 : vp_in (i + (4 : Int32)) L) (hk : k + 4 ≤ room_1.cells) (hn : n + 24 ≤ room_1.slots) (h : REL a σ τ)
    (kk : ∀ (σ' τ' : St) (a' : AS) (fo' : Nat → Int64) (fd' : Nat → UInt64), REL a' σ' τ' → gG p l e room_1 s m args below meth c D (cyT cy) A0 9 Q (LW cy Ac aK Am qo qd σ' τ' fo' fd') (k + 4) (n + 24) 2302 [(0, .ref b), (1, .ref (Ac 0)), (2, .ref (Am 0)), (3, .ref qo), (4, .ref qd), (5, .int i)] []) : gG p l e room_1 s m args below meth c D (cyT cy) A0 9 Q (LW cy Ac aK Am qo qd σ τ fo fd) k n 1104 [(0, .ref b), (1, .ref (Ac 0)), (2, .ref (Am 0)), (3, .ref qo), (4, .ref qd), (5, .int i)] [] := by
  obtain ⟨r, σ', v, τ', a', hc, hm, hR, ho⟩ := P_thin h ((xs (i + (1 : Int32)).toNatClampNeg)) ((xs (i + (2 : Int32)).toNatClampNeg))
  refine g_aload_n X dL_law_1104 rfl 1 rfl ?_
  refine g_aload_n X dL_law_1105 rfl 0 rfl ?_
  refine g_iload X dL_law_1106 5 rfl ?_
  refine g_iconst X dL_law_1108 (v := (1 : Int32)) (by decide) ?_
  refine g_iadd X dL_law_1109 ?_
  refine g_scld X hX hbl hbA h1 dL_law_1110 ?_
  refine g_aload_n X dL_law_1111 rfl 0 rfl ?_
  refine g_iload X dL_law_1112 5 rfl ?_
  refine g_iconst X dL_law_1114 (v := (2 : Int32)) (by decide) ?_
  refine g_iadd X dL_law_1115 ?_
  refine g_scld X hX hbl hbA h2 dL_law_1116 ?_
  refine g_aload_n X dL_law_1117 rfl 3 rfl ?_
  have tail : ∀ (kq : Int32) (f9 : Nat → Int64), gi τ' 10 = kq → (kq = 0 → f9 0 = v.toInt64) → gG p l e room_1 s m args below meth c D (cyT cy) A0 9 Q (LW cy Ac aK Am qo qd σ' τ f9 fd) (k + 1) (n + 6) 1121 [(0, .ref b), (1, .ref (Ac 0)), (2, .ref (Am 0)), (3, .ref qo), (4, .ref qd), (5, .int i)] [.int kq] := by
    intro kq f9 hq hf
    have fin : gG p l e room_1 s m args below meth c D (cyT cy) A0 9 Q (LW cy Ac aK Am qo qd σ' τ' f9 fd) (k + 1) (n + 6) 1169 [(7, .int v), (6, .int kq), (0, .ref b), (1, .ref (Ac 0)), (2, .ref (Am 0)), (3, .ref qo), (4, .ref qd), (5, .int i)] [] := g_goto X (tgt := 2302) dL_law_1169 (by decide) (g_sub [2, 3, 4, 5, 6, 7] rfl (g_wid (Nat.add_le_add_left (by decide) k) (Nat.add_le_add_left (by decide) n) (kk _ _ _ _ _ hR)))
    refine g_istore X dL_law_1121 (by decide) (lv' := [(6, .int kq), (0, .ref b), (1, .ref (Ac 0)), (2, .ref (Am 0)), (3, .ref qo), (4, .ref qd), (5, .int i)]) rfl ?_
    refine g_aload_n X dL_law_1123 rfl 3 rfl ?_
    refine g_aload_n X dL_law_1124 rfl 1 rfl ?_
    refine g_iload X dL_law_1125 6 rfl ?_
    refine g_iconst X dL_law_1127 (v := (1 : Int32)) (by decide) ?_
    refine g_iadd X dL_law_1128 ?_
    refine g_scld X hX hbl hbA h1 dL_law_1129 ?_
    refine g_aload_n X dL_law_1130 rfl 1 rfl ?_
    refine g_iload X dL_law_1131 6 rfl ?_
    refine g_iconst X dL_law_1133 (v := (2 : Int32)) (by decide) ?_
    refine g_iadd X dL_law_1134 ?_
    refine g_scld X hX hbl hbA h2 dL_law_1135 ?_
    refine g_perm (LW_perm cy Ac aK Am qo qd σ' τ f9 fd) ?_
    refine g_callVI (AD := Am) (E := mE cy Am) (L := mLs) (As := [.int (xs (i + (1 : Int32)).toNatClampNeg), .int (xs (i + (2 : Int32)).toNatClampNeg)]) X (ZL_ok _ _ _ _ _) (mI_up (m_X11_thin hm)) (cwV 2 X.1.2.2.2.2 gZ_law_X11_thin rfl rfl rfl (by decide +kernel) ⟨Nat.le_of_ble_eq_true rfl, Nat.le_of_ble_eq_true rfl⟩) rfl mm0 (mE_0 cy Am τ) rfl rfl (Nat.le_of_ble_eq_true rfl) ⟨Nat.le_trans (Nat.add_le_add_left (by decide : 1 ≤ 4) k) hk, Nat.le_trans (Nat.add_le_add_left (by decide : 6 ≤ 24) n) hn⟩ dL_law_1136 ?_
    refine g_perm (LW_perm cy Ac aK Am qo qd σ' τ' f9 fd).symm ?_
    refine g_istore X dL_law_1139 (by decide) (lv' := [(7, .int v), (6, .int kq), (0, .ref b), (1, .ref (Ac 0)), (2, .ref (Am 0)), (3, .ref qo), (4, .ref qd), (5, .int i)]) rfl ?_
    refine g_aload_n X dL_law_1141 rfl 4 rfl ?_
    refine g_perm (LW_perm cy Ac aK Am qo qd σ' τ' f9 fd) ?_
    refine g_callVI (AD := Am) (E := mE cy Am) (L := mLs) (As := []) X (ZL_ok _ _ _ _ _) (mI_up (m_X11_thrown (σ := τ') (r := gi τ' 10) rfl)) (cwV 0 X.1.2.2.2.2 gZ_law_X11_thrown rfl rfl rfl (by decide +kernel) ⟨Nat.le_of_ble_eq_true rfl, Nat.le_of_ble_eq_true rfl⟩) rfl mm0 (mE_0 cy Am τ') rfl rfl (Nat.le_of_ble_eq_true rfl) ⟨Nat.le_trans (Nat.add_le_add_left (by decide : 1 ≤ 4) k) hk, Nat.le_trans (Nat.add_le_add_left (by decide : 6 ≤ 24) n) hn⟩ dL_law_1142 ?_
    refine g_perm (LW_perm cy Ac aK Am qo qd σ' τ' f9 fd).symm ?_
    refine g_iload X dL_law_1145 1 rfl ?_
    refine g_icmp_eq X (tgt := 1152) dL_law_1147 (by decide) (fun _ => ?_) (fun z => absurd hq z)
    refine g_iload X dL_law_1152 1 rfl ?_
    refine g_if_ne X (tgt := 1169) dL_law_1154 (by decide) (fun _ => fin) (fun z => ?_)
    refine g_aload_n X dL_law_1157 rfl 5 rfl ?_
    refine g_iconst X dL_law_1158 (v := (0 : Int32)) (by decide) ?_
    refine g_lald X 85 5 (cW_85 _ _ _ _ _) rfl (vp_in_nI (n := 0) (N := 1) (by decide) (by decide)) dL_law_1159 ?_
    have hf := hf z
    refine g_iload X dL_law_1160 0 rfl ?_
    refine g_i2l X dL_law_1162 ?_
    refine g_lcmp X dL_law_1163 ?_
    refine g_if_eq X (tgt := 1169) dL_law_1164 (by decide) (fun _ => fin) (fun z2 => absurd (show lg_cmp (f9 0) (v.toInt64) = 0 by rw [show f9 0 = v.toInt64 from hf]; exact cmp_self _) z2)
  rcases ho with ⟨x, rfl, rfl, h0⟩ | ⟨j, E9, rfl, hE, h0⟩
  · refine g_lawS (Wf := (oL cy Ac aK qo ((qd, .inl (cy 6, 1, .inr (.inr (.inr (.inl fd))))) :: wF Am (mE cy Am) mLs [] τ))) (u := (σ, fo)) (u' := (σ', (vp_updL fo 0 v.toInt64))) (As := [.ref (Ac 0), .int (xs (i + (1 : Int32)).toNatClampNeg), .int (xs (i + (2 : Int32)).toNatClampNeg), .ref qo]) X (ZL_ok _ _ _ _ _) (w_thin_ok hl hc) (vx_cwSW 4 X.1.2.2.2.2 gZ_law_L_thin rfl rfl rfl (by decide +kernel) ⟨Nat.le_of_ble_eq_true rfl, Nat.le_of_ble_eq_true rfl⟩) rfl rfl (Nat.le_of_ble_eq_true rfl) ⟨Nat.le_trans (Nat.add_le_add_left (by decide : 1 ≤ 4) k) hk, Nat.le_trans (Nat.add_le_add_left (by decide : 6 ≤ 24) n) hn⟩ dL_law_1118 (k' := (k + 1)) (n' := (n + 6)) (Nat.le_refl _) (Nat.le_refl _) rfl rfl ?_
    exact tail 0 _ h0 (fun _ => rfl)
  · match j, hE, h0 with
    | 0, hE, h0 =>
      cases hE
      refine g_lawS (Wf := (oL cy Ac aK qo ((qd, .inl (cy 6, 1, .inr (.inr (.inr (.inl fd))))) :: wF Am (mE cy Am) mLs [] τ))) (u := (σ, fo)) (u' := (σ', fo)) (As := [.ref (Ac 0), .int (xs (i + (1 : Int32)).toNatClampNeg), .int (xs (i + (2 : Int32)).toNatClampNeg), .ref qo]) X (ZL_ok _ _ _ _ _) (w_thin_x1 hl hc) (vx_cwSW 4 X.1.2.2.2.2 gZ_law_L_thin rfl rfl rfl (by decide +kernel) ⟨Nat.le_of_ble_eq_true rfl, Nat.le_of_ble_eq_true rfl⟩) rfl rfl (Nat.le_of_ble_eq_true rfl) ⟨Nat.le_trans (Nat.add_le_add_left (by decide : 1 ≤ 4) k) hk, Nat.le_trans (Nat.add_le_add_left (by decide : 6 ≤ 24) n) hn⟩ dL_law_1118 (k' := (k + 1)) (n' := (n + 6)) (Nat.le_refl _) (Nat.le_refl _) rfl rfl ?_
      exact tail 1 _ h0 (fun z => absurd z (by decide))
    | j + 1, hE, _ => exact nomatch hE
set_option maxHeartbeats 8000000 in
set_option maxRecDepth 100000 in
theorem law_c17 (X : gC (ZL aK aO aS aV aT) p s m args meth c D (cyT cy) A0 cL_law wzL_law RL 9 ret) (hl : l.stackTraces = false) (hX : va_X b L xs s s.heap) (hbl : b < s.heap.size) (hbA : ¬ A0 b) (h1 : vp_in (i + (1 : Int32)) L) (h2 : vp_in (i + (2 : Int32)) L) (h3 : vp_in (i + (3 : Int32)) L) (h4 : vp_in (i + (4 : Int32)) L) (hk : k + 4 ≤ room_1.cells) (hn : n + 24 ≤ room_1.slots) (h : REL a σ τ)
    (kk : ∀ (σ' τ' : St) (a' : AS) (fo' : Nat → Int64) (fd' : Nat → UInt64), REL a' σ' τ' → gG p l e room_1 s m args below meth c D (cyT cy) A0 9 Q (LW cy Ac aK Am qo qd σ' τ' fo' fd') (k + 4) (n + 24) 2302 [(0, .ref b), (1, .ref (Ac 0)), (2, .ref (Am 0)), (3, .ref qo), (4, .ref qd), (5, .int i)] []) : gG p l e room_1 s m args below meth c D (cyT cy) A0 9 Q (LW cy Ac aK Am qo qd σ τ fo fd) k n 1172 [(0, .ref b), (1, .ref (Ac 0)), (2, .ref (Am 0)), (3, .ref qo), (4, .ref qd), (5, .int i)] [] := by
  obtain ⟨r, σ', v, τ', a', hc, hm, hR, ho⟩ := P_single h ((xs (i + (1 : Int32)).toNatClampNeg))
  refine g_aload_n X dL_law_1172 rfl 1 rfl ?_
  refine g_aload_n X dL_law_1173 rfl 0 rfl ?_
  refine g_iload X dL_law_1174 5 rfl ?_
  refine g_iconst X dL_law_1176 (v := (1 : Int32)) (by decide) ?_
  refine g_iadd X dL_law_1177 ?_
  refine g_scld X hX hbl hbA h1 dL_law_1178 ?_
  refine g_aload_n X dL_law_1179 rfl 3 rfl ?_
  have tail : ∀ (kq : Int32) (f9 : Nat → Int64), gi τ' 10 = kq → (kq = 0 → f9 0 = v.toInt64) → gG p l e room_1 s m args below meth c D (cyT cy) A0 9 Q (LW cy Ac aK Am qo qd σ' τ f9 fd) (k + 1) (n + 6) 1183 [(0, .ref b), (1, .ref (Ac 0)), (2, .ref (Am 0)), (3, .ref qo), (4, .ref qd), (5, .int i)] [.int kq] := by
    intro kq f9 hq hf
    have fin : gG p l e room_1 s m args below meth c D (cyT cy) A0 9 Q (LW cy Ac aK Am qo qd σ' τ' f9 fd) (k + 1) (n + 6) 1225 [(7, .int v), (6, .int kq), (0, .ref b), (1, .ref (Ac 0)), (2, .ref (Am 0)), (3, .ref qo), (4, .ref qd), (5, .int i)] [] := g_goto X (tgt := 2302) dL_law_1225 (by decide) (g_sub [2, 3, 4, 5, 6, 7] rfl (g_wid (Nat.add_le_add_left (by decide) k) (Nat.add_le_add_left (by decide) n) (kk _ _ _ _ _ hR)))
    refine g_istore X dL_law_1183 (by decide) (lv' := [(6, .int kq), (0, .ref b), (1, .ref (Ac 0)), (2, .ref (Am 0)), (3, .ref qo), (4, .ref qd), (5, .int i)]) rfl ?_
    refine g_aload_n X dL_law_1185 rfl 3 rfl ?_
    refine g_aload_n X dL_law_1186 rfl 1 rfl ?_
    refine g_iload X dL_law_1187 6 rfl ?_
    refine g_iconst X dL_law_1189 (v := (1 : Int32)) (by decide) ?_
    refine g_iadd X dL_law_1190 ?_
    refine g_scld X hX hbl hbA h1 dL_law_1191 ?_
    refine g_perm (LW_perm cy Ac aK Am qo qd σ' τ f9 fd) ?_
    refine g_callVI (AD := Am) (E := mE cy Am) (L := mLs) (As := [.int (xs (i + (1 : Int32)).toNatClampNeg)]) X (ZL_ok _ _ _ _ _) (mI_up (m_X11_single hm)) (cwV 1 X.1.2.2.2.2 gZ_law_X11_single rfl rfl rfl (by decide +kernel) ⟨Nat.le_of_ble_eq_true rfl, Nat.le_of_ble_eq_true rfl⟩) rfl mm0 (mE_0 cy Am τ) rfl rfl (Nat.le_of_ble_eq_true rfl) ⟨Nat.le_trans (Nat.add_le_add_left (by decide : 1 ≤ 4) k) hk, Nat.le_trans (Nat.add_le_add_left (by decide : 6 ≤ 24) n) hn⟩ dL_law_1192 ?_
    refine g_perm (LW_perm cy Ac aK Am qo qd σ' τ' f9 fd).symm ?_
    refine g_istore X dL_law_1195 (by decide) (lv' := [(7, .int v), (6, .int kq), (0, .ref b), (1, .ref (Ac 0)), (2, .ref (Am 0)), (3, .ref qo), (4, .ref qd), (5, .int i)]) rfl ?_
    refine g_aload_n X dL_law_1197 rfl 4 rfl ?_
    refine g_perm (LW_perm cy Ac aK Am qo qd σ' τ' f9 fd) ?_
    refine g_callVI (AD := Am) (E := mE cy Am) (L := mLs) (As := []) X (ZL_ok _ _ _ _ _) (mI_up (m_X11_thrown (σ := τ') (r := gi τ' 10) rfl)) (cwV 0 X.1.2.2.2.2 gZ_law_X11_thrown rfl rfl rfl (by decide +kernel) ⟨Nat.le_of_ble_eq_true rfl, Nat.le_of_ble_eq_true rfl⟩) rfl mm0 (mE_0 cy Am τ') rfl rfl (Nat.le_of_ble_eq_true rfl) ⟨Nat.le_trans (Nat.add_le_add_left (by decide : 1 ≤ 4) k) hk, Nat.le_trans (Nat.add_le_add_left (by decide : 6 ≤ 24) n) hn⟩ dL_law_1198 ?_
    refine g_perm (LW_perm cy Ac aK Am qo qd σ' τ' f9 fd).symm ?_
    refine g_iload X dL_law_1201 1 rfl ?_
    refine g_icmp_eq X (tgt := 1208) dL_law_1203 (by decide) (fun _ => ?_) (fun z => absurd hq z)
    refine g_iload X dL_law_1208 1 rfl ?_
    refine g_if_ne X (tgt := 1225) dL_law_1210 (by decide) (fun _ => fin) (fun z => ?_)
    refine g_aload_n X dL_law_1213 rfl 5 rfl ?_
    refine g_iconst X dL_law_1214 (v := (0 : Int32)) (by decide) ?_
    refine g_lald X 85 5 (cW_85 _ _ _ _ _) rfl (vp_in_nI (n := 0) (N := 1) (by decide) (by decide)) dL_law_1215 ?_
    have hf := hf z
    refine g_iload X dL_law_1216 0 rfl ?_
    refine g_i2l X dL_law_1218 ?_
    refine g_lcmp X dL_law_1219 ?_
    refine g_if_eq X (tgt := 1225) dL_law_1220 (by decide) (fun _ => fin) (fun z2 => absurd (show lg_cmp (f9 0) (v.toInt64) = 0 by rw [show f9 0 = v.toInt64 from hf]; exact cmp_self _) z2)
  rcases ho with ⟨x, rfl, rfl, h0⟩ | ⟨j, E9, rfl, hE, h0⟩
  · refine g_lawS (Wf := (oL cy Ac aK qo ((qd, .inl (cy 6, 1, .inr (.inr (.inr (.inl fd))))) :: wF Am (mE cy Am) mLs [] τ))) (u := (σ, fo)) (u' := (σ', (vp_updL fo 0 v.toInt64))) (As := [.ref (Ac 0), .int (xs (i + (1 : Int32)).toNatClampNeg), .ref qo]) X (ZL_ok _ _ _ _ _) (w_single_ok hl hc) (vx_cwSW 3 X.1.2.2.2.2 gZ_law_L_single rfl rfl rfl (by decide +kernel) ⟨Nat.le_of_ble_eq_true rfl, Nat.le_of_ble_eq_true rfl⟩) rfl rfl (Nat.le_of_ble_eq_true rfl) ⟨Nat.le_trans (Nat.add_le_add_left (by decide : 1 ≤ 4) k) hk, Nat.le_trans (Nat.add_le_add_left (by decide : 6 ≤ 24) n) hn⟩ dL_law_1180 (k' := (k + 1)) (n' := (n + 6)) (Nat.le_refl _) (Nat.le_refl _) rfl rfl ?_
    exact tail 0 _ h0 (fun _ => rfl)
  · match j, hE, h0 with
    | 0, hE, h0 =>
      cases hE
      refine g_lawS (Wf := (oL cy Ac aK qo ((qd, .inl (cy 6, 1, .inr (.inr (.inr (.inl fd))))) :: wF Am (mE cy Am) mLs [] τ))) (u := (σ, fo)) (u' := (σ', fo)) (As := [.ref (Ac 0), .int (xs (i + (1 : Int32)).toNatClampNeg), .ref qo]) X (ZL_ok _ _ _ _ _) (w_single_x1 hl hc) (vx_cwSW 3 X.1.2.2.2.2 gZ_law_L_single rfl rfl rfl (by decide +kernel) ⟨Nat.le_of_ble_eq_true rfl, Nat.le_of_ble_eq_true rfl⟩) rfl rfl (Nat.le_of_ble_eq_true rfl) ⟨Nat.le_trans (Nat.add_le_add_left (by decide : 1 ≤ 4) k) hk, Nat.le_trans (Nat.add_le_add_left (by decide : 6 ≤ 24) n) hn⟩ dL_law_1180 (k' := (k + 1)) (n' := (n + 6)) (Nat.le_refl _) (Nat.le_refl _) rfl rfl ?_
      exact tail 1 _ h0 (fun z => absurd z (by decide))
    | j + 1, hE, _ => exact nomatch hE
set_option maxHeartbeats 8000000 in
set_option maxRecDepth 100000 in
theorem law_c18 (X : gC (ZL aK aO aS aV aT) p s m args meth c D (cyT cy) A0 cL_law wzL_law RL 9 ret) (hl : l.stackTraces = false) (hX : va_X b L xs s s.heap) (hbl : b < s.heap.size) (hbA : ¬ A0 b) (h1 : vp_in (i + (1 : Int32)) L) (h2 : vp_in (i + (2 : Int32)) L) (h3 : vp_in (i + (3 : Int32)) L) (h4 : vp_in (i + (4 : Int32)) L) (hk : k + 4 ≤ room_1.cells) (hn : n + 24 ≤ room_1.slots) (h : REL a σ τ)
    (kk : ∀ (σ' τ' : St) (a' : AS) (fo' : Nat → Int64) (fd' : Nat → UInt64), REL a' σ' τ' → gG p l e room_1 s m args below meth c D (cyT cy) A0 9 Q (LW cy Ac aK Am qo qd σ' τ' fo' fd') (k + 4) (n + 24) 2302 [(0, .ref b), (1, .ref (Ac 0)), (2, .ref (Am 0)), (3, .ref qo), (4, .ref qd), (5, .int i)] []) : gG p l e room_1 s m args below meth c D (cyT cy) A0 9 Q (LW cy Ac aK Am qo qd σ τ fo fd) k n 1228 [(0, .ref b), (1, .ref (Ac 0)), (2, .ref (Am 0)), (3, .ref qo), (4, .ref qd), (5, .int i)] [] := by
  obtain ⟨r, σ', v, τ', a', hc, hm, hR, ho⟩ := P_empty h ((xs (i + (1 : Int32)).toNatClampNeg))
  refine g_aload_n X dL_law_1228 rfl 1 rfl ?_
  refine g_aload_n X dL_law_1229 rfl 0 rfl ?_
  refine g_iload X dL_law_1230 5 rfl ?_
  refine g_iconst X dL_law_1232 (v := (1 : Int32)) (by decide) ?_
  refine g_iadd X dL_law_1233 ?_
  refine g_scld X hX hbl hbA h1 dL_law_1234 ?_
  refine g_aload_n X dL_law_1235 rfl 3 rfl ?_
  have tail : ∀ (kq : Int32) (f9 : Nat → Int64), gi τ' 10 = kq → (kq = 0 → f9 0 = v.toInt64) → gG p l e room_1 s m args below meth c D (cyT cy) A0 9 Q (LW cy Ac aK Am qo qd σ' τ f9 fd) (k + 1) (n + 6) 1239 [(0, .ref b), (1, .ref (Ac 0)), (2, .ref (Am 0)), (3, .ref qo), (4, .ref qd), (5, .int i)] [.int kq] := by
    intro kq f9 hq hf
    have fin : gG p l e room_1 s m args below meth c D (cyT cy) A0 9 Q (LW cy Ac aK Am qo qd σ' τ' f9 fd) (k + 1) (n + 6) 1281 [(7, .int v), (6, .int kq), (0, .ref b), (1, .ref (Ac 0)), (2, .ref (Am 0)), (3, .ref qo), (4, .ref qd), (5, .int i)] [] := g_goto X (tgt := 2302) dL_law_1281 (by decide) (g_sub [2, 3, 4, 5, 6, 7] rfl (g_wid (Nat.add_le_add_left (by decide) k) (Nat.add_le_add_left (by decide) n) (kk _ _ _ _ _ hR)))
    refine g_istore X dL_law_1239 (by decide) (lv' := [(6, .int kq), (0, .ref b), (1, .ref (Ac 0)), (2, .ref (Am 0)), (3, .ref qo), (4, .ref qd), (5, .int i)]) rfl ?_
    refine g_aload_n X dL_law_1241 rfl 3 rfl ?_
    refine g_aload_n X dL_law_1242 rfl 1 rfl ?_
    refine g_iload X dL_law_1243 6 rfl ?_
    refine g_iconst X dL_law_1245 (v := (1 : Int32)) (by decide) ?_
    refine g_iadd X dL_law_1246 ?_
    refine g_scld X hX hbl hbA h1 dL_law_1247 ?_
    refine g_perm (LW_perm cy Ac aK Am qo qd σ' τ f9 fd) ?_
    refine g_callVI (AD := Am) (E := mE cy Am) (L := mLs) (As := [.int (xs (i + (1 : Int32)).toNatClampNeg)]) X (ZL_ok _ _ _ _ _) (mI_up (m_X11_empty hm)) (cwV 1 X.1.2.2.2.2 gZ_law_X11_empty rfl rfl rfl (by decide +kernel) ⟨Nat.le_of_ble_eq_true rfl, Nat.le_of_ble_eq_true rfl⟩) rfl mm0 (mE_0 cy Am τ) rfl rfl (Nat.le_of_ble_eq_true rfl) ⟨Nat.le_trans (Nat.add_le_add_left (by decide : 1 ≤ 4) k) hk, Nat.le_trans (Nat.add_le_add_left (by decide : 6 ≤ 24) n) hn⟩ dL_law_1248 ?_
    refine g_perm (LW_perm cy Ac aK Am qo qd σ' τ' f9 fd).symm ?_
    refine g_istore X dL_law_1251 (by decide) (lv' := [(7, .int v), (6, .int kq), (0, .ref b), (1, .ref (Ac 0)), (2, .ref (Am 0)), (3, .ref qo), (4, .ref qd), (5, .int i)]) rfl ?_
    refine g_aload_n X dL_law_1253 rfl 4 rfl ?_
    refine g_perm (LW_perm cy Ac aK Am qo qd σ' τ' f9 fd) ?_
    refine g_callVI (AD := Am) (E := mE cy Am) (L := mLs) (As := []) X (ZL_ok _ _ _ _ _) (mI_up (m_X11_thrown (σ := τ') (r := gi τ' 10) rfl)) (cwV 0 X.1.2.2.2.2 gZ_law_X11_thrown rfl rfl rfl (by decide +kernel) ⟨Nat.le_of_ble_eq_true rfl, Nat.le_of_ble_eq_true rfl⟩) rfl mm0 (mE_0 cy Am τ') rfl rfl (Nat.le_of_ble_eq_true rfl) ⟨Nat.le_trans (Nat.add_le_add_left (by decide : 1 ≤ 4) k) hk, Nat.le_trans (Nat.add_le_add_left (by decide : 6 ≤ 24) n) hn⟩ dL_law_1254 ?_
    refine g_perm (LW_perm cy Ac aK Am qo qd σ' τ' f9 fd).symm ?_
    refine g_iload X dL_law_1257 1 rfl ?_
    refine g_icmp_eq X (tgt := 1264) dL_law_1259 (by decide) (fun _ => ?_) (fun z => absurd hq z)
    refine g_iload X dL_law_1264 1 rfl ?_
    refine g_if_ne X (tgt := 1281) dL_law_1266 (by decide) (fun _ => fin) (fun z => ?_)
    refine g_aload_n X dL_law_1269 rfl 5 rfl ?_
    refine g_iconst X dL_law_1270 (v := (0 : Int32)) (by decide) ?_
    refine g_lald X 85 5 (cW_85 _ _ _ _ _) rfl (vp_in_nI (n := 0) (N := 1) (by decide) (by decide)) dL_law_1271 ?_
    have hf := hf z
    refine g_iload X dL_law_1272 0 rfl ?_
    refine g_i2l X dL_law_1274 ?_
    refine g_lcmp X dL_law_1275 ?_
    refine g_if_eq X (tgt := 1281) dL_law_1276 (by decide) (fun _ => fin) (fun z2 => absurd (show lg_cmp (f9 0) (v.toInt64) = 0 by rw [show f9 0 = v.toInt64 from hf]; exact cmp_self _) z2)
  rcases ho with ⟨x, rfl, rfl, h0⟩ | ⟨j, E9, rfl, hE, h0⟩
  · refine g_lawS (Wf := (oL cy Ac aK qo ((qd, .inl (cy 6, 1, .inr (.inr (.inr (.inl fd))))) :: wF Am (mE cy Am) mLs [] τ))) (u := (σ, fo)) (u' := (σ', (vp_updL fo 0 v.toInt64))) (As := [.ref (Ac 0), .int (xs (i + (1 : Int32)).toNatClampNeg), .ref qo]) X (ZL_ok _ _ _ _ _) (w_empty_ok hl hc) (vx_cwSW 3 X.1.2.2.2.2 gZ_law_L_empty rfl rfl rfl (by decide +kernel) ⟨Nat.le_of_ble_eq_true rfl, Nat.le_of_ble_eq_true rfl⟩) rfl rfl (Nat.le_of_ble_eq_true rfl) ⟨Nat.le_trans (Nat.add_le_add_left (by decide : 1 ≤ 4) k) hk, Nat.le_trans (Nat.add_le_add_left (by decide : 6 ≤ 24) n) hn⟩ dL_law_1236 (k' := (k + 1)) (n' := (n + 6)) (Nat.le_refl _) (Nat.le_refl _) rfl rfl ?_
    exact tail 0 _ h0 (fun _ => rfl)
  · match j, hE, h0 with
    | 0, hE, h0 =>
      cases hE
      refine g_lawS (Wf := (oL cy Ac aK qo ((qd, .inl (cy 6, 1, .inr (.inr (.inr (.inl fd))))) :: wF Am (mE cy Am) mLs [] τ))) (u := (σ, fo)) (u' := (σ', fo)) (As := [.ref (Ac 0), .int (xs (i + (1 : Int32)).toNatClampNeg), .ref qo]) X (ZL_ok _ _ _ _ _) (w_empty_x1 hl hc) (vx_cwSW 3 X.1.2.2.2.2 gZ_law_L_empty rfl rfl rfl (by decide +kernel) ⟨Nat.le_of_ble_eq_true rfl, Nat.le_of_ble_eq_true rfl⟩) rfl rfl (Nat.le_of_ble_eq_true rfl) ⟨Nat.le_trans (Nat.add_le_add_left (by decide : 1 ≤ 4) k) hk, Nat.le_trans (Nat.add_le_add_left (by decide : 6 ≤ 24) n) hn⟩ dL_law_1236 (k' := (k + 1)) (n' := (n + 6)) (Nat.le_refl _) (Nat.le_refl _) rfl rfl ?_
      exact tail 1 _ h0 (fun z => absurd z (by decide))
    | j + 1, hE, _ => exact nomatch hE
end LC
