section LC
variable {p : Program} {l : Launch} {e : Env} {s : State} {m : MethodId} {args : Array Value} {below : List Frame} {meth : Method} {c : Code} {D : va_G} {A0 : Nat → Prop} {Q : State → Prop} {cy : Nat → ClassId} {Ac aK Am aO aS aV aT : Nat → Nat} {qo qd b L k n : Nat} {xs : Nat → Int32} {i : Int32} {fo : Nat → Int64} {fd : Nat → UInt64} {a : AS} {σ τ : St}
set_option maxHeartbeats 8000000 in
set_option maxRecDepth 100000 in
theorem law_c25 (X : gC (ZL aK aO aS aV aT) p s m args meth c D (cyT cy) A0 cL_law wzL_law RL 9 ret) (hl : l.stackTraces = false) (hX : va_X b L xs s s.heap) (hbl : b < s.heap.size) (hbA : ¬ A0 b) (h1 : vp_in (i + (1 : Int32)) L) (h2 : vp_in (i + (2 : Int32)) L) (h3 : vp_in (i + (3 : Int32)) L) (h4 : vp_in (i + (4 : Int32)) L) (hk : k + 4 ≤ room_1.cells) (hn : n + 24 ≤ room_1.slots) (h : REL a σ τ)
    (kk : ∀ (σ' τ' : St) (a' : AS) (fo' : Nat → Int64) (fd' : Nat → UInt64), REL a' σ' τ' → gG p l e room_1 s m args below meth c D (cyT cy) A0 9 Q (LW cy Ac aK Am qo qd σ' τ' fo' fd') (k + 4) (n + 24) 2302 [(0, .ref b), (1, .ref (Ac 0)), (2, .ref (Am 0)), (3, .ref qo), (4, .ref qd), (5, .int i)] []) : gG p l e room_1 s m args below meth c D (cyT cy) A0 9 Q (LW cy Ac aK Am qo qd σ τ fo fd) k n 1668 [(0, .ref b), (1, .ref (Ac 0)), (2, .ref (Am 0)), (3, .ref qo), (4, .ref qd), (5, .int i)] [] := by
  obtain ⟨r, v, τ', a', hc, hm, hR, ho⟩ := P_isSorted h ((xs (i + (1 : Int32)).toNatClampNeg))
  refine g_aload_n X dL_law_1668 rfl 1 rfl ?_
  refine g_aload_n X dL_law_1669 rfl 0 rfl ?_
  refine g_iload X dL_law_1670 5 rfl ?_
  refine g_iconst X dL_law_1672 (v := (1 : Int32)) (by decide) ?_
  refine g_iadd X dL_law_1673 ?_
  refine g_scld X hX hbl hbA h1 dL_law_1674 ?_
  refine g_aload_n X dL_law_1675 rfl 3 rfl ?_
  rcases ho with ⟨x, rfl, rfl, h0⟩ | ⟨j, E9, rfl, hE, h0⟩
  · rcases sorted01 hc with rfl | rfl
    · have tail : ∀ (kq : Int32) (f9 : Nat → Int64), gi τ' 10 = kq → (kq = 0 → f9 0 = (0 : Int64)) → gG p l e room_1 s m args below meth c D (cyT cy) A0 9 Q (LW cy Ac aK Am qo qd σ τ f9 fd) (k + 1) (n + 6) 1679 [(0, .ref b), (1, .ref (Ac 0)), (2, .ref (Am 0)), (3, .ref qo), (4, .ref qd), (5, .int i)] [.int kq] := by
        intro kq f9 hq hf
        have fin : gG p l e room_1 s m args below meth c D (cyT cy) A0 9 Q (LW cy Ac aK Am qo qd σ τ' f9 fd) (k + 1) (n + 6) 1728 [(7, .int (0 : Int32)), (6, .int kq), (0, .ref b), (1, .ref (Ac 0)), (2, .ref (Am 0)), (3, .ref qo), (4, .ref qd), (5, .int i)] [] := g_goto X (tgt := 2302) dL_law_1728 (by decide) (g_sub [2, 3, 4, 5, 6, 7] rfl (g_wid (Nat.add_le_add_left (by decide) k) (Nat.add_le_add_left (by decide) n) (kk _ _ _ _ _ hR)))
        refine g_istore X dL_law_1679 (by decide) (lv' := [(6, .int kq), (0, .ref b), (1, .ref (Ac 0)), (2, .ref (Am 0)), (3, .ref qo), (4, .ref qd), (5, .int i)]) rfl ?_
        refine g_aload_n X dL_law_1681 rfl 3 rfl ?_
        refine g_aload_n X dL_law_1682 rfl 1 rfl ?_
        refine g_iload X dL_law_1683 6 rfl ?_
        refine g_iconst X dL_law_1685 (v := (1 : Int32)) (by decide) ?_
        refine g_iadd X dL_law_1686 ?_
        refine g_scld X hX hbl hbA h1 dL_law_1687 ?_
        refine g_perm (LW_perm cy Ac aK Am qo qd σ τ f9 fd) ?_
        refine g_callVI (AD := Am) (E := mE cy Am) (L := mLs) (As := [.int (xs (i + (1 : Int32)).toNatClampNeg)]) X (ZL_ok _ _ _ _ _) (mI_up (m_X11_isSorted hm)) (cwV 1 X.1.2.2.2.2 gZ_law_X11_isSorted rfl rfl rfl (by decide +kernel) ⟨Nat.le_of_ble_eq_true rfl, Nat.le_of_ble_eq_true rfl⟩) rfl mm0 (mE_0 cy Am τ) rfl rfl (Nat.le_of_ble_eq_true rfl) ⟨Nat.le_trans (Nat.add_le_add_left (by decide : 1 ≤ 4) k) hk, Nat.le_trans (Nat.add_le_add_left (by decide : 6 ≤ 24) n) hn⟩ dL_law_1688 ?_
        refine g_perm (LW_perm cy Ac aK Am qo qd σ τ' f9 fd).symm ?_
        refine g_istore X dL_law_1691 (by decide) (lv' := [(7, .int (0 : Int32)), (6, .int kq), (0, .ref b), (1, .ref (Ac 0)), (2, .ref (Am 0)), (3, .ref qo), (4, .ref qd), (5, .int i)]) rfl ?_
        refine g_aload_n X dL_law_1693 rfl 4 rfl ?_
        refine g_perm (LW_perm cy Ac aK Am qo qd σ τ' f9 fd) ?_
        refine g_callVI (AD := Am) (E := mE cy Am) (L := mLs) (As := []) X (ZL_ok _ _ _ _ _) (mI_up (m_X11_thrown (σ := τ') (r := gi τ' 10) rfl)) (cwV 0 X.1.2.2.2.2 gZ_law_X11_thrown rfl rfl rfl (by decide +kernel) ⟨Nat.le_of_ble_eq_true rfl, Nat.le_of_ble_eq_true rfl⟩) rfl mm0 (mE_0 cy Am τ') rfl rfl (Nat.le_of_ble_eq_true rfl) ⟨Nat.le_trans (Nat.add_le_add_left (by decide : 1 ≤ 4) k) hk, Nat.le_trans (Nat.add_le_add_left (by decide : 6 ≤ 24) n) hn⟩ dL_law_1694 ?_
        refine g_perm (LW_perm cy Ac aK Am qo qd σ τ' f9 fd).symm ?_
        refine g_iload X dL_law_1697 1 rfl ?_
        refine g_icmp_eq X (tgt := 1704) dL_law_1699 (by decide) (fun _ => ?_) (fun z => absurd hq z)
        refine g_iload X dL_law_1704 1 rfl ?_
        refine g_if_ne X (tgt := 1728) dL_law_1706 (by decide) (fun _ => fin) (fun z => ?_)
        refine g_aload_n X dL_law_1709 rfl 5 rfl ?_
        refine g_iconst X dL_law_1710 (v := (0 : Int32)) (by decide) ?_
        refine g_lald X 85 5 (cW_85 _ _ _ _ _) rfl (vp_in_nI (n := 0) (N := 1) (by decide) (by decide)) dL_law_1711 ?_
        have hf := hf z
        refine g_iload X dL_law_1712 0 rfl ?_
        refine g_if_eq X (tgt := 1721) dL_law_1714 (by decide) (fun _ => ?_) (fun z2 => absurd rfl z2)
        refine g_lconst X dL_law_1721 (v := (0 : Int64)) (by decide) ?_
        refine g_lcmp X dL_law_1722 ?_
        refine g_if_eq X (tgt := 1728) dL_law_1723 (by decide) (fun _ => fin) (fun z2 => absurd (show lg_cmp (f9 0) (0 : Int64) = 0 by rw [show f9 0 = (0 : Int64) from hf]; exact cmp_self _) z2)
      refine g_lawS (Wf := (oL cy Ac aK qo ((qd, .inl (cy 6, 1, .inr (.inr (.inr (.inl fd))))) :: wF Am (mE cy Am) mLs [] τ))) (u := (σ, fo)) (u' := (σ, (vp_updL fo 0 (0 : Int64)))) (As := [.ref (Ac 0), .int (xs (i + (1 : Int32)).toNatClampNeg), .ref qo]) X (ZL_ok _ _ _ _ _) (w_isSorted_ok0 hl hc) (vx_cwSW 3 X.1.2.2.2.2 gZ_law_L_isSorted rfl rfl rfl (by decide +kernel) ⟨Nat.le_of_ble_eq_true rfl, Nat.le_of_ble_eq_true rfl⟩) rfl rfl (Nat.le_of_ble_eq_true rfl) ⟨Nat.le_trans (Nat.add_le_add_left (by decide : 1 ≤ 4) k) hk, Nat.le_trans (Nat.add_le_add_left (by decide : 6 ≤ 24) n) hn⟩ dL_law_1676 (k' := (k + 1)) (n' := (n + 6)) (Nat.le_refl _) (Nat.le_refl _) rfl rfl ?_
      exact tail 0 _ h0 (fun _ => rfl)
    · have tail : ∀ (kq : Int32) (f9 : Nat → Int64), gi τ' 10 = kq → (kq = 0 → f9 0 = (1 : Int64)) → gG p l e room_1 s m args below meth c D (cyT cy) A0 9 Q (LW cy Ac aK Am qo qd σ τ f9 fd) (k + 1) (n + 6) 1679 [(0, .ref b), (1, .ref (Ac 0)), (2, .ref (Am 0)), (3, .ref qo), (4, .ref qd), (5, .int i)] [.int kq] := by
        intro kq f9 hq hf
        have fin : gG p l e room_1 s m args below meth c D (cyT cy) A0 9 Q (LW cy Ac aK Am qo qd σ τ' f9 fd) (k + 1) (n + 6) 1728 [(7, .int (1 : Int32)), (6, .int kq), (0, .ref b), (1, .ref (Ac 0)), (2, .ref (Am 0)), (3, .ref qo), (4, .ref qd), (5, .int i)] [] := g_goto X (tgt := 2302) dL_law_1728 (by decide) (g_sub [2, 3, 4, 5, 6, 7] rfl (g_wid (Nat.add_le_add_left (by decide) k) (Nat.add_le_add_left (by decide) n) (kk _ _ _ _ _ hR)))
        refine g_istore X dL_law_1679 (by decide) (lv' := [(6, .int kq), (0, .ref b), (1, .ref (Ac 0)), (2, .ref (Am 0)), (3, .ref qo), (4, .ref qd), (5, .int i)]) rfl ?_
        refine g_aload_n X dL_law_1681 rfl 3 rfl ?_
        refine g_aload_n X dL_law_1682 rfl 1 rfl ?_
        refine g_iload X dL_law_1683 6 rfl ?_
        refine g_iconst X dL_law_1685 (v := (1 : Int32)) (by decide) ?_
        refine g_iadd X dL_law_1686 ?_
        refine g_scld X hX hbl hbA h1 dL_law_1687 ?_
        refine g_perm (LW_perm cy Ac aK Am qo qd σ τ f9 fd) ?_
        refine g_callVI (AD := Am) (E := mE cy Am) (L := mLs) (As := [.int (xs (i + (1 : Int32)).toNatClampNeg)]) X (ZL_ok _ _ _ _ _) (mI_up (m_X11_isSorted hm)) (cwV 1 X.1.2.2.2.2 gZ_law_X11_isSorted rfl rfl rfl (by decide +kernel) ⟨Nat.le_of_ble_eq_true rfl, Nat.le_of_ble_eq_true rfl⟩) rfl mm0 (mE_0 cy Am τ) rfl rfl (Nat.le_of_ble_eq_true rfl) ⟨Nat.le_trans (Nat.add_le_add_left (by decide : 1 ≤ 4) k) hk, Nat.le_trans (Nat.add_le_add_left (by decide : 6 ≤ 24) n) hn⟩ dL_law_1688 ?_
        refine g_perm (LW_perm cy Ac aK Am qo qd σ τ' f9 fd).symm ?_
        refine g_istore X dL_law_1691 (by decide) (lv' := [(7, .int (1 : Int32)), (6, .int kq), (0, .ref b), (1, .ref (Ac 0)), (2, .ref (Am 0)), (3, .ref qo), (4, .ref qd), (5, .int i)]) rfl ?_
        refine g_aload_n X dL_law_1693 rfl 4 rfl ?_
        refine g_perm (LW_perm cy Ac aK Am qo qd σ τ' f9 fd) ?_
        refine g_callVI (AD := Am) (E := mE cy Am) (L := mLs) (As := []) X (ZL_ok _ _ _ _ _) (mI_up (m_X11_thrown (σ := τ') (r := gi τ' 10) rfl)) (cwV 0 X.1.2.2.2.2 gZ_law_X11_thrown rfl rfl rfl (by decide +kernel) ⟨Nat.le_of_ble_eq_true rfl, Nat.le_of_ble_eq_true rfl⟩) rfl mm0 (mE_0 cy Am τ') rfl rfl (Nat.le_of_ble_eq_true rfl) ⟨Nat.le_trans (Nat.add_le_add_left (by decide : 1 ≤ 4) k) hk, Nat.le_trans (Nat.add_le_add_left (by decide : 6 ≤ 24) n) hn⟩ dL_law_1694 ?_
        refine g_perm (LW_perm cy Ac aK Am qo qd σ τ' f9 fd).symm ?_
        refine g_iload X dL_law_1697 1 rfl ?_
        refine g_icmp_eq X (tgt := 1704) dL_law_1699 (by decide) (fun _ => ?_) (fun z => absurd hq z)
        refine g_iload X dL_law_1704 1 rfl ?_
        refine g_if_ne X (tgt := 1728) dL_law_1706 (by decide) (fun _ => fin) (fun z => ?_)
        refine g_aload_n X dL_law_1709 rfl 5 rfl ?_
        refine g_iconst X dL_law_1710 (v := (0 : Int32)) (by decide) ?_
        refine g_lald X 85 5 (cW_85 _ _ _ _ _) rfl (vp_in_nI (n := 0) (N := 1) (by decide) (by decide)) dL_law_1711 ?_
        have hf := hf z
        refine g_iload X dL_law_1712 0 rfl ?_
        refine g_if_eq X (tgt := 1721) dL_law_1714 (by decide) (fun z2 => absurd z2 (by decide)) (fun _ => ?_)
        refine g_lconst X dL_law_1717 (v := (1 : Int64)) (by decide) ?_
        refine g_goto X (tgt := 1722) dL_law_1718 (by decide) ?_
        refine g_lcmp X dL_law_1722 ?_
        refine g_if_eq X (tgt := 1728) dL_law_1723 (by decide) (fun _ => fin) (fun z2 => absurd (show lg_cmp (f9 0) (1 : Int64) = 0 by rw [show f9 0 = (1 : Int64) from hf]; exact cmp_self _) z2)
      refine g_lawS (Wf := (oL cy Ac aK qo ((qd, .inl (cy 6, 1, .inr (.inr (.inr (.inl fd))))) :: wF Am (mE cy Am) mLs [] τ))) (u := (σ, fo)) (u' := (σ, (vp_updL fo 0 (1 : Int64)))) (As := [.ref (Ac 0), .int (xs (i + (1 : Int32)).toNatClampNeg), .ref qo]) X (ZL_ok _ _ _ _ _) (w_isSorted_ok1 hl hc) (vx_cwSW 3 X.1.2.2.2.2 gZ_law_L_isSorted rfl rfl rfl (by decide +kernel) ⟨Nat.le_of_ble_eq_true rfl, Nat.le_of_ble_eq_true rfl⟩) rfl rfl (Nat.le_of_ble_eq_true rfl) ⟨Nat.le_trans (Nat.add_le_add_left (by decide : 1 ≤ 4) k) hk, Nat.le_trans (Nat.add_le_add_left (by decide : 6 ≤ 24) n) hn⟩ dL_law_1676 (k' := (k + 1)) (n' := (n + 6)) (Nat.le_refl _) (Nat.le_refl _) rfl rfl ?_
      exact tail 0 _ h0 (fun _ => rfl)
  · match j, hE, h0 with
    | 0, hE, h0 =>
      cases hE
      have tail : ∀ (kq : Int32) (f9 : Nat → Int64), gi τ' 10 = kq → ¬ kq = 0 → gG p l e room_1 s m args below meth c D (cyT cy) A0 9 Q (LW cy Ac aK Am qo qd σ τ f9 fd) (k + 1) (n + 6) 1679 [(0, .ref b), (1, .ref (Ac 0)), (2, .ref (Am 0)), (3, .ref qo), (4, .ref qd), (5, .int i)] [.int kq] := by
        intro kq f9 hq hne
        have fin : gG p l e room_1 s m args below meth c D (cyT cy) A0 9 Q (LW cy Ac aK Am qo qd σ τ' f9 fd) (k + 1) (n + 6) 1728 [(7, .int v), (6, .int kq), (0, .ref b), (1, .ref (Ac 0)), (2, .ref (Am 0)), (3, .ref qo), (4, .ref qd), (5, .int i)] [] := g_goto X (tgt := 2302) dL_law_1728 (by decide) (g_sub [2, 3, 4, 5, 6, 7] rfl (g_wid (Nat.add_le_add_left (by decide) k) (Nat.add_le_add_left (by decide) n) (kk _ _ _ _ _ hR)))
        refine g_istore X dL_law_1679 (by decide) (lv' := [(6, .int kq), (0, .ref b), (1, .ref (Ac 0)), (2, .ref (Am 0)), (3, .ref qo), (4, .ref qd), (5, .int i)]) rfl ?_
        refine g_aload_n X dL_law_1681 rfl 3 rfl ?_
        refine g_aload_n X dL_law_1682 rfl 1 rfl ?_
        refine g_iload X dL_law_1683 6 rfl ?_
        refine g_iconst X dL_law_1685 (v := (1 : Int32)) (by decide) ?_
        refine g_iadd X dL_law_1686 ?_
        refine g_scld X hX hbl hbA h1 dL_law_1687 ?_
        refine g_perm (LW_perm cy Ac aK Am qo qd σ τ f9 fd) ?_
        refine g_callVI (AD := Am) (E := mE cy Am) (L := mLs) (As := [.int (xs (i + (1 : Int32)).toNatClampNeg)]) X (ZL_ok _ _ _ _ _) (mI_up (m_X11_isSorted hm)) (cwV 1 X.1.2.2.2.2 gZ_law_X11_isSorted rfl rfl rfl (by decide +kernel) ⟨Nat.le_of_ble_eq_true rfl, Nat.le_of_ble_eq_true rfl⟩) rfl mm0 (mE_0 cy Am τ) rfl rfl (Nat.le_of_ble_eq_true rfl) ⟨Nat.le_trans (Nat.add_le_add_left (by decide : 1 ≤ 4) k) hk, Nat.le_trans (Nat.add_le_add_left (by decide : 6 ≤ 24) n) hn⟩ dL_law_1688 ?_
        refine g_perm (LW_perm cy Ac aK Am qo qd σ τ' f9 fd).symm ?_
        refine g_istore X dL_law_1691 (by decide) (lv' := [(7, .int v), (6, .int kq), (0, .ref b), (1, .ref (Ac 0)), (2, .ref (Am 0)), (3, .ref qo), (4, .ref qd), (5, .int i)]) rfl ?_
        refine g_aload_n X dL_law_1693 rfl 4 rfl ?_
        refine g_perm (LW_perm cy Ac aK Am qo qd σ τ' f9 fd) ?_
        refine g_callVI (AD := Am) (E := mE cy Am) (L := mLs) (As := []) X (ZL_ok _ _ _ _ _) (mI_up (m_X11_thrown (σ := τ') (r := gi τ' 10) rfl)) (cwV 0 X.1.2.2.2.2 gZ_law_X11_thrown rfl rfl rfl (by decide +kernel) ⟨Nat.le_of_ble_eq_true rfl, Nat.le_of_ble_eq_true rfl⟩) rfl mm0 (mE_0 cy Am τ') rfl rfl (Nat.le_of_ble_eq_true rfl) ⟨Nat.le_trans (Nat.add_le_add_left (by decide : 1 ≤ 4) k) hk, Nat.le_trans (Nat.add_le_add_left (by decide : 6 ≤ 24) n) hn⟩ dL_law_1694 ?_
        refine g_perm (LW_perm cy Ac aK Am qo qd σ τ' f9 fd).symm ?_
        refine g_iload X dL_law_1697 1 rfl ?_
        refine g_icmp_eq X (tgt := 1704) dL_law_1699 (by decide) (fun _ => ?_) (fun z => absurd hq z)
        refine g_iload X dL_law_1704 1 rfl ?_
        refine g_if_ne X (tgt := 1728) dL_law_1706 (by decide) (fun _ => fin) (fun z => absurd z hne)
      refine g_lawS (Wf := (oL cy Ac aK qo ((qd, .inl (cy 6, 1, .inr (.inr (.inr (.inl fd))))) :: wF Am (mE cy Am) mLs [] τ))) (u := (σ, fo)) (u' := (σ, fo)) (As := [.ref (Ac 0), .int (xs (i + (1 : Int32)).toNatClampNeg), .ref qo]) X (ZL_ok _ _ _ _ _) (w_isSorted_x1 hl hc) (vx_cwSW 3 X.1.2.2.2.2 gZ_law_L_isSorted rfl rfl rfl (by decide +kernel) ⟨Nat.le_of_ble_eq_true rfl, Nat.le_of_ble_eq_true rfl⟩) rfl rfl (Nat.le_of_ble_eq_true rfl) ⟨Nat.le_trans (Nat.add_le_add_left (by decide : 1 ≤ 4) k) hk, Nat.le_trans (Nat.add_le_add_left (by decide : 6 ≤ 24) n) hn⟩ dL_law_1676 (k' := (k + 1)) (n' := (n + 6)) (Nat.le_refl _) (Nat.le_refl _) rfl rfl ?_
      exact tail 1 _ h0 (by decide)
    | j + 1, hE, _ => exact nomatch hE
set_option maxHeartbeats 8000000 in
set_option maxRecDepth 100000 in
theorem law_c26 (X : gC (ZL aK aO aS aV aT) p s m args meth c D (cyT cy) A0 cL_law wzL_law RL 9 ret) (hl : l.stackTraces = false) (hX : va_X b L xs s s.heap) (hbl : b < s.heap.size) (hbA : ¬ A0 b) (h1 : vp_in (i + (1 : Int32)) L) (h2 : vp_in (i + (2 : Int32)) L) (h3 : vp_in (i + (3 : Int32)) L) (h4 : vp_in (i + (4 : Int32)) L) (hk : k + 4 ≤ room_1.cells) (hn : n + 24 ≤ room_1.slots) (h : REL a σ τ)
    (kk : ∀ (σ' τ' : St) (a' : AS) (fo' : Nat → Int64) (fd' : Nat → UInt64), REL a' σ' τ' → gG p l e room_1 s m args below meth c D (cyT cy) A0 9 Q (LW cy Ac aK Am qo qd σ' τ' fo' fd') (k + 4) (n + 24) 2302 [(0, .ref b), (1, .ref (Ac 0)), (2, .ref (Am 0)), (3, .ref qo), (4, .ref qd), (5, .int i)] []) : gG p l e room_1 s m args below meth c D (cyT cy) A0 9 Q (LW cy Ac aK Am qo qd σ τ fo fd) k n 1731 [(0, .ref b), (1, .ref (Ac 0)), (2, .ref (Am 0)), (3, .ref qo), (4, .ref qd), (5, .int i)] [] := by
  obtain ⟨r, v, τ', a', hc, hm, hR, ho⟩ := P_runs h ((xs (i + (1 : Int32)).toNatClampNeg))
  refine g_aload_n X dL_law_1731 rfl 1 rfl ?_
  refine g_aload_n X dL_law_1732 rfl 0 rfl ?_
  refine g_iload X dL_law_1733 5 rfl ?_
  refine g_iconst X dL_law_1735 (v := (1 : Int32)) (by decide) ?_
  refine g_iadd X dL_law_1736 ?_
  refine g_scld X hX hbl hbA h1 dL_law_1737 ?_
  refine g_aload_n X dL_law_1738 rfl 3 rfl ?_
  have tail : ∀ (kq : Int32) (f9 : Nat → Int64), gi τ' 10 = kq → (kq = 0 → f9 0 = v.toInt64) → gG p l e room_1 s m args below meth c D (cyT cy) A0 9 Q (LW cy Ac aK Am qo qd σ τ f9 fd) (k + 1) (n + 6) 1742 [(0, .ref b), (1, .ref (Ac 0)), (2, .ref (Am 0)), (3, .ref qo), (4, .ref qd), (5, .int i)] [.int kq] := by
    intro kq f9 hq hf
    have fin : gG p l e room_1 s m args below meth c D (cyT cy) A0 9 Q (LW cy Ac aK Am qo qd σ τ' f9 fd) (k + 1) (n + 6) 1784 [(7, .int v), (6, .int kq), (0, .ref b), (1, .ref (Ac 0)), (2, .ref (Am 0)), (3, .ref qo), (4, .ref qd), (5, .int i)] [] := g_goto X (tgt := 2302) dL_law_1784 (by decide) (g_sub [2, 3, 4, 5, 6, 7] rfl (g_wid (Nat.add_le_add_left (by decide) k) (Nat.add_le_add_left (by decide) n) (kk _ _ _ _ _ hR)))
    refine g_istore X dL_law_1742 (by decide) (lv' := [(6, .int kq), (0, .ref b), (1, .ref (Ac 0)), (2, .ref (Am 0)), (3, .ref qo), (4, .ref qd), (5, .int i)]) rfl ?_
    refine g_aload_n X dL_law_1744 rfl 3 rfl ?_
    refine g_aload_n X dL_law_1745 rfl 1 rfl ?_
    refine g_iload X dL_law_1746 6 rfl ?_
    refine g_iconst X dL_law_1748 (v := (1 : Int32)) (by decide) ?_
    refine g_iadd X dL_law_1749 ?_
    refine g_scld X hX hbl hbA h1 dL_law_1750 ?_
    refine g_perm (LW_perm cy Ac aK Am qo qd σ τ f9 fd) ?_
    refine g_callVI (AD := Am) (E := mE cy Am) (L := mLs) (As := [.int (xs (i + (1 : Int32)).toNatClampNeg)]) X (ZL_ok _ _ _ _ _) (mI_up (m_X11_runs hm)) (cwV 1 X.1.2.2.2.2 gZ_law_X11_runs rfl rfl rfl (by decide +kernel) ⟨Nat.le_of_ble_eq_true rfl, Nat.le_of_ble_eq_true rfl⟩) rfl mm0 (mE_0 cy Am τ) rfl rfl (Nat.le_of_ble_eq_true rfl) ⟨Nat.le_trans (Nat.add_le_add_left (by decide : 1 ≤ 4) k) hk, Nat.le_trans (Nat.add_le_add_left (by decide : 6 ≤ 24) n) hn⟩ dL_law_1751 ?_
    refine g_perm (LW_perm cy Ac aK Am qo qd σ τ' f9 fd).symm ?_
    refine g_istore X dL_law_1754 (by decide) (lv' := [(7, .int v), (6, .int kq), (0, .ref b), (1, .ref (Ac 0)), (2, .ref (Am 0)), (3, .ref qo), (4, .ref qd), (5, .int i)]) rfl ?_
    refine g_aload_n X dL_law_1756 rfl 4 rfl ?_
    refine g_perm (LW_perm cy Ac aK Am qo qd σ τ' f9 fd) ?_
    refine g_callVI (AD := Am) (E := mE cy Am) (L := mLs) (As := []) X (ZL_ok _ _ _ _ _) (mI_up (m_X11_thrown (σ := τ') (r := gi τ' 10) rfl)) (cwV 0 X.1.2.2.2.2 gZ_law_X11_thrown rfl rfl rfl (by decide +kernel) ⟨Nat.le_of_ble_eq_true rfl, Nat.le_of_ble_eq_true rfl⟩) rfl mm0 (mE_0 cy Am τ') rfl rfl (Nat.le_of_ble_eq_true rfl) ⟨Nat.le_trans (Nat.add_le_add_left (by decide : 1 ≤ 4) k) hk, Nat.le_trans (Nat.add_le_add_left (by decide : 6 ≤ 24) n) hn⟩ dL_law_1757 ?_
    refine g_perm (LW_perm cy Ac aK Am qo qd σ τ' f9 fd).symm ?_
    refine g_iload X dL_law_1760 1 rfl ?_
    refine g_icmp_eq X (tgt := 1767) dL_law_1762 (by decide) (fun _ => ?_) (fun z => absurd hq z)
    refine g_iload X dL_law_1767 1 rfl ?_
    refine g_if_ne X (tgt := 1784) dL_law_1769 (by decide) (fun _ => fin) (fun z => ?_)
    refine g_aload_n X dL_law_1772 rfl 5 rfl ?_
    refine g_iconst X dL_law_1773 (v := (0 : Int32)) (by decide) ?_
    refine g_lald X 85 5 (cW_85 _ _ _ _ _) rfl (vp_in_nI (n := 0) (N := 1) (by decide) (by decide)) dL_law_1774 ?_
    have hf := hf z
    refine g_iload X dL_law_1775 0 rfl ?_
    refine g_i2l X dL_law_1777 ?_
    refine g_lcmp X dL_law_1778 ?_
    refine g_if_eq X (tgt := 1784) dL_law_1779 (by decide) (fun _ => fin) (fun z2 => absurd (show lg_cmp (f9 0) (v.toInt64) = 0 by rw [show f9 0 = v.toInt64 from hf]; exact cmp_self _) z2)
  rcases ho with ⟨x, rfl, rfl, h0⟩ | ⟨j, E9, rfl, hE, h0⟩
  · refine g_lawS (Wf := (oL cy Ac aK qo ((qd, .inl (cy 6, 1, .inr (.inr (.inr (.inl fd))))) :: wF Am (mE cy Am) mLs [] τ))) (u := (σ, fo)) (u' := (σ, (vp_updL fo 0 v.toInt64))) (As := [.ref (Ac 0), .int (xs (i + (1 : Int32)).toNatClampNeg), .ref qo]) X (ZL_ok _ _ _ _ _) (w_runs_ok hl hc) (vx_cwSW 3 X.1.2.2.2.2 gZ_law_L_runs rfl rfl rfl (by decide +kernel) ⟨Nat.le_of_ble_eq_true rfl, Nat.le_of_ble_eq_true rfl⟩) rfl rfl (Nat.le_of_ble_eq_true rfl) ⟨Nat.le_trans (Nat.add_le_add_left (by decide : 1 ≤ 4) k) hk, Nat.le_trans (Nat.add_le_add_left (by decide : 6 ≤ 24) n) hn⟩ dL_law_1739 (k' := (k + 1)) (n' := (n + 6)) (Nat.le_refl _) (Nat.le_refl _) rfl rfl ?_
    exact tail 0 _ h0 (fun _ => rfl)
  · match j, hE, h0 with
    | 0, hE, h0 =>
      cases hE
      refine g_lawS (Wf := (oL cy Ac aK qo ((qd, .inl (cy 6, 1, .inr (.inr (.inr (.inl fd))))) :: wF Am (mE cy Am) mLs [] τ))) (u := (σ, fo)) (u' := (σ, fo)) (As := [.ref (Ac 0), .int (xs (i + (1 : Int32)).toNatClampNeg), .ref qo]) X (ZL_ok _ _ _ _ _) (w_runs_x1 hl hc) (vx_cwSW 3 X.1.2.2.2.2 gZ_law_L_runs rfl rfl rfl (by decide +kernel) ⟨Nat.le_of_ble_eq_true rfl, Nat.le_of_ble_eq_true rfl⟩) rfl rfl (Nat.le_of_ble_eq_true rfl) ⟨Nat.le_trans (Nat.add_le_add_left (by decide : 1 ≤ 4) k) hk, Nat.le_trans (Nat.add_le_add_left (by decide : 6 ≤ 24) n) hn⟩ dL_law_1739 (k' := (k + 1)) (n' := (n + 6)) (Nat.le_refl _) (Nat.le_refl _) rfl rfl ?_
      exact tail 1 _ h0 (fun z => absurd z (by decide))
    | j + 1, hE, _ => exact nomatch hE
set_option maxHeartbeats 8000000 in
set_option maxRecDepth 100000 in
theorem law_c27 (X : gC (ZL aK aO aS aV aT) p s m args meth c D (cyT cy) A0 cL_law wzL_law RL 9 ret) (hl : l.stackTraces = false) (hX : va_X b L xs s s.heap) (hbl : b < s.heap.size) (hbA : ¬ A0 b) (h1 : vp_in (i + (1 : Int32)) L) (h2 : vp_in (i + (2 : Int32)) L) (h3 : vp_in (i + (3 : Int32)) L) (h4 : vp_in (i + (4 : Int32)) L) (hk : k + 4 ≤ room_1.cells) (hn : n + 24 ≤ room_1.slots) (h : REL a σ τ)
    (kk : ∀ (σ' τ' : St) (a' : AS) (fo' : Nat → Int64) (fd' : Nat → UInt64), REL a' σ' τ' → gG p l e room_1 s m args below meth c D (cyT cy) A0 9 Q (LW cy Ac aK Am qo qd σ' τ' fo' fd') (k + 4) (n + 24) 2302 [(0, .ref b), (1, .ref (Ac 0)), (2, .ref (Am 0)), (3, .ref qo), (4, .ref qd), (5, .int i)] []) : gG p l e room_1 s m args below meth c D (cyT cy) A0 9 Q (LW cy Ac aK Am qo qd σ τ fo fd) k n 1787 [(0, .ref b), (1, .ref (Ac 0)), (2, .ref (Am 0)), (3, .ref qo), (4, .ref qd), (5, .int i)] [] := by
  obtain ⟨r, v, τ', a', hc, hm, hR, ho⟩ := P_longestRun h ((xs (i + (1 : Int32)).toNatClampNeg))
  refine g_aload_n X dL_law_1787 rfl 1 rfl ?_
  refine g_aload_n X dL_law_1788 rfl 0 rfl ?_
  refine g_iload X dL_law_1789 5 rfl ?_
  refine g_iconst X dL_law_1791 (v := (1 : Int32)) (by decide) ?_
  refine g_iadd X dL_law_1792 ?_
  refine g_scld X hX hbl hbA h1 dL_law_1793 ?_
  refine g_aload_n X dL_law_1794 rfl 3 rfl ?_
  have tail : ∀ (kq : Int32) (f9 : Nat → Int64), gi τ' 10 = kq → (kq = 0 → f9 0 = v.toInt64) → gG p l e room_1 s m args below meth c D (cyT cy) A0 9 Q (LW cy Ac aK Am qo qd σ τ f9 fd) (k + 1) (n + 6) 1798 [(0, .ref b), (1, .ref (Ac 0)), (2, .ref (Am 0)), (3, .ref qo), (4, .ref qd), (5, .int i)] [.int kq] := by
    intro kq f9 hq hf
    have fin : gG p l e room_1 s m args below meth c D (cyT cy) A0 9 Q (LW cy Ac aK Am qo qd σ τ' f9 fd) (k + 1) (n + 6) 1840 [(7, .int v), (6, .int kq), (0, .ref b), (1, .ref (Ac 0)), (2, .ref (Am 0)), (3, .ref qo), (4, .ref qd), (5, .int i)] [] := g_goto X (tgt := 2302) dL_law_1840 (by decide) (g_sub [2, 3, 4, 5, 6, 7] rfl (g_wid (Nat.add_le_add_left (by decide) k) (Nat.add_le_add_left (by decide) n) (kk _ _ _ _ _ hR)))
    refine g_istore X dL_law_1798 (by decide) (lv' := [(6, .int kq), (0, .ref b), (1, .ref (Ac 0)), (2, .ref (Am 0)), (3, .ref qo), (4, .ref qd), (5, .int i)]) rfl ?_
    refine g_aload_n X dL_law_1800 rfl 3 rfl ?_
    refine g_aload_n X dL_law_1801 rfl 1 rfl ?_
    refine g_iload X dL_law_1802 6 rfl ?_
    refine g_iconst X dL_law_1804 (v := (1 : Int32)) (by decide) ?_
    refine g_iadd X dL_law_1805 ?_
    refine g_scld X hX hbl hbA h1 dL_law_1806 ?_
    refine g_perm (LW_perm cy Ac aK Am qo qd σ τ f9 fd) ?_
    refine g_callVI (AD := Am) (E := mE cy Am) (L := mLs) (As := [.int (xs (i + (1 : Int32)).toNatClampNeg)]) X (ZL_ok _ _ _ _ _) (mI_up (m_X11_longestRun hm)) (cwV 1 X.1.2.2.2.2 gZ_law_X11_longestRun rfl rfl rfl (by decide +kernel) ⟨Nat.le_of_ble_eq_true rfl, Nat.le_of_ble_eq_true rfl⟩) rfl mm0 (mE_0 cy Am τ) rfl rfl (Nat.le_of_ble_eq_true rfl) ⟨Nat.le_trans (Nat.add_le_add_left (by decide : 1 ≤ 4) k) hk, Nat.le_trans (Nat.add_le_add_left (by decide : 6 ≤ 24) n) hn⟩ dL_law_1807 ?_
    refine g_perm (LW_perm cy Ac aK Am qo qd σ τ' f9 fd).symm ?_
    refine g_istore X dL_law_1810 (by decide) (lv' := [(7, .int v), (6, .int kq), (0, .ref b), (1, .ref (Ac 0)), (2, .ref (Am 0)), (3, .ref qo), (4, .ref qd), (5, .int i)]) rfl ?_
    refine g_aload_n X dL_law_1812 rfl 4 rfl ?_
    refine g_perm (LW_perm cy Ac aK Am qo qd σ τ' f9 fd) ?_
    refine g_callVI (AD := Am) (E := mE cy Am) (L := mLs) (As := []) X (ZL_ok _ _ _ _ _) (mI_up (m_X11_thrown (σ := τ') (r := gi τ' 10) rfl)) (cwV 0 X.1.2.2.2.2 gZ_law_X11_thrown rfl rfl rfl (by decide +kernel) ⟨Nat.le_of_ble_eq_true rfl, Nat.le_of_ble_eq_true rfl⟩) rfl mm0 (mE_0 cy Am τ') rfl rfl (Nat.le_of_ble_eq_true rfl) ⟨Nat.le_trans (Nat.add_le_add_left (by decide : 1 ≤ 4) k) hk, Nat.le_trans (Nat.add_le_add_left (by decide : 6 ≤ 24) n) hn⟩ dL_law_1813 ?_
    refine g_perm (LW_perm cy Ac aK Am qo qd σ τ' f9 fd).symm ?_
    refine g_iload X dL_law_1816 1 rfl ?_
    refine g_icmp_eq X (tgt := 1823) dL_law_1818 (by decide) (fun _ => ?_) (fun z => absurd hq z)
    refine g_iload X dL_law_1823 1 rfl ?_
    refine g_if_ne X (tgt := 1840) dL_law_1825 (by decide) (fun _ => fin) (fun z => ?_)
    refine g_aload_n X dL_law_1828 rfl 5 rfl ?_
    refine g_iconst X dL_law_1829 (v := (0 : Int32)) (by decide) ?_
    refine g_lald X 85 5 (cW_85 _ _ _ _ _) rfl (vp_in_nI (n := 0) (N := 1) (by decide) (by decide)) dL_law_1830 ?_
    have hf := hf z
    refine g_iload X dL_law_1831 0 rfl ?_
    refine g_i2l X dL_law_1833 ?_
    refine g_lcmp X dL_law_1834 ?_
    refine g_if_eq X (tgt := 1840) dL_law_1835 (by decide) (fun _ => fin) (fun z2 => absurd (show lg_cmp (f9 0) (v.toInt64) = 0 by rw [show f9 0 = v.toInt64 from hf]; exact cmp_self _) z2)
  rcases ho with ⟨x, rfl, rfl, h0⟩ | ⟨j, E9, rfl, hE, h0⟩
  · refine g_lawS (Wf := (oL cy Ac aK qo ((qd, .inl (cy 6, 1, .inr (.inr (.inr (.inl fd))))) :: wF Am (mE cy Am) mLs [] τ))) (u := (σ, fo)) (u' := (σ, (vp_updL fo 0 v.toInt64))) (As := [.ref (Ac 0), .int (xs (i + (1 : Int32)).toNatClampNeg), .ref qo]) X (ZL_ok _ _ _ _ _) (w_longestRun_ok hl hc) (vx_cwSW 3 X.1.2.2.2.2 gZ_law_L_longestRun rfl rfl rfl (by decide +kernel) ⟨Nat.le_of_ble_eq_true rfl, Nat.le_of_ble_eq_true rfl⟩) rfl rfl (Nat.le_of_ble_eq_true rfl) ⟨Nat.le_trans (Nat.add_le_add_left (by decide : 1 ≤ 4) k) hk, Nat.le_trans (Nat.add_le_add_left (by decide : 6 ≤ 24) n) hn⟩ dL_law_1795 (k' := (k + 1)) (n' := (n + 6)) (Nat.le_refl _) (Nat.le_refl _) rfl rfl ?_
    exact tail 0 _ h0 (fun _ => rfl)
  · match j, hE, h0 with
    | 0, hE, h0 =>
      cases hE
      refine g_lawS (Wf := (oL cy Ac aK qo ((qd, .inl (cy 6, 1, .inr (.inr (.inr (.inl fd))))) :: wF Am (mE cy Am) mLs [] τ))) (u := (σ, fo)) (u' := (σ, fo)) (As := [.ref (Ac 0), .int (xs (i + (1 : Int32)).toNatClampNeg), .ref qo]) X (ZL_ok _ _ _ _ _) (w_longestRun_x1 hl hc) (vx_cwSW 3 X.1.2.2.2.2 gZ_law_L_longestRun rfl rfl rfl (by decide +kernel) ⟨Nat.le_of_ble_eq_true rfl, Nat.le_of_ble_eq_true rfl⟩) rfl rfl (Nat.le_of_ble_eq_true rfl) ⟨Nat.le_trans (Nat.add_le_add_left (by decide : 1 ≤ 4) k) hk, Nat.le_trans (Nat.add_le_add_left (by decide : 6 ≤ 24) n) hn⟩ dL_law_1795 (k' := (k + 1)) (n' := (n + 6)) (Nat.le_refl _) (Nat.le_refl _) rfl rfl ?_
      exact tail 1 _ h0 (fun z => absurd z (by decide))
    | j + 1, hE, _ => exact nomatch hE
set_option maxHeartbeats 8000000 in
set_option maxRecDepth 100000 in
theorem law_c28 (X : gC (ZL aK aO aS aV aT) p s m args meth c D (cyT cy) A0 cL_law wzL_law RL 9 ret) (hl : l.stackTraces = false) (hX : va_X b L xs s s.heap) (hbl : b < s.heap.size) (hbA : ¬ A0 b) (h1 : vp_in (i + (1 : Int32)) L) (h2 : vp_in (i + (2 : Int32)) L) (h3 : vp_in (i + (3 : Int32)) L) (h4 : vp_in (i + (4 : Int32)) L) (hk : k + 4 ≤ room_1.cells) (hn : n + 24 ≤ room_1.slots) (h : REL a σ τ)
    (kk : ∀ (σ' τ' : St) (a' : AS) (fo' : Nat → Int64) (fd' : Nat → UInt64), REL a' σ' τ' → gG p l e room_1 s m args below meth c D (cyT cy) A0 9 Q (LW cy Ac aK Am qo qd σ' τ' fo' fd') (k + 4) (n + 24) 2302 [(0, .ref b), (1, .ref (Ac 0)), (2, .ref (Am 0)), (3, .ref qo), (4, .ref qd), (5, .int i)] []) : gG p l e room_1 s m args below meth c D (cyT cy) A0 9 Q (LW cy Ac aK Am qo qd σ τ fo fd) k n 1843 [(0, .ref b), (1, .ref (Ac 0)), (2, .ref (Am 0)), (3, .ref qo), (4, .ref qd), (5, .int i)] [] := by
  obtain ⟨r, σ', v, τ', a', hc, hm, hR, ho⟩ := P_wrongPairs h ((xs (i + (1 : Int32)).toNatClampNeg))
  refine g_aload_n X dL_law_1843 rfl 1 rfl ?_
  refine g_aload_n X dL_law_1844 rfl 0 rfl ?_
  refine g_iload X dL_law_1845 5 rfl ?_
  refine g_iconst X dL_law_1847 (v := (1 : Int32)) (by decide) ?_
  refine g_iadd X dL_law_1848 ?_
  refine g_scld X hX hbl hbA h1 dL_law_1849 ?_
  refine g_aload_n X dL_law_1850 rfl 3 rfl ?_
  have tail : ∀ (kq : Int32) (f9 : Nat → Int64), gi τ' 10 = kq → (kq = 0 → f9 0 = v.toInt64) → gG p l e room_1 s m args below meth c D (cyT cy) A0 9 Q (LW cy Ac aK Am qo qd σ' τ f9 fd) (k + 1) (n + 6) 1854 [(0, .ref b), (1, .ref (Ac 0)), (2, .ref (Am 0)), (3, .ref qo), (4, .ref qd), (5, .int i)] [.int kq] := by
    intro kq f9 hq hf
    have fin : gG p l e room_1 s m args below meth c D (cyT cy) A0 9 Q (LW cy Ac aK Am qo qd σ' τ' f9 fd) (k + 1) (n + 6) 1896 [(7, .int v), (6, .int kq), (0, .ref b), (1, .ref (Ac 0)), (2, .ref (Am 0)), (3, .ref qo), (4, .ref qd), (5, .int i)] [] := g_goto X (tgt := 2302) dL_law_1896 (by decide) (g_sub [2, 3, 4, 5, 6, 7] rfl (g_wid (Nat.add_le_add_left (by decide) k) (Nat.add_le_add_left (by decide) n) (kk _ _ _ _ _ hR)))
    refine g_istore X dL_law_1854 (by decide) (lv' := [(6, .int kq), (0, .ref b), (1, .ref (Ac 0)), (2, .ref (Am 0)), (3, .ref qo), (4, .ref qd), (5, .int i)]) rfl ?_
    refine g_aload_n X dL_law_1856 rfl 3 rfl ?_
    refine g_aload_n X dL_law_1857 rfl 1 rfl ?_
    refine g_iload X dL_law_1858 6 rfl ?_
    refine g_iconst X dL_law_1860 (v := (1 : Int32)) (by decide) ?_
    refine g_iadd X dL_law_1861 ?_
    refine g_scld X hX hbl hbA h1 dL_law_1862 ?_
    refine g_perm (LW_perm cy Ac aK Am qo qd σ' τ f9 fd) ?_
    refine g_callVI (AD := Am) (E := mE cy Am) (L := mLs) (As := [.int (xs (i + (1 : Int32)).toNatClampNeg)]) X (ZL_ok _ _ _ _ _) (mI_up (m_X11_wrongPairs hm)) (cwV 1 X.1.2.2.2.2 gZ_law_X11_wrongPairs rfl rfl rfl (by decide +kernel) ⟨Nat.le_of_ble_eq_true rfl, Nat.le_of_ble_eq_true rfl⟩) rfl mm0 (mE_0 cy Am τ) rfl rfl (Nat.le_of_ble_eq_true rfl) ⟨Nat.le_trans (Nat.add_le_add_left (by decide : 1 ≤ 4) k) hk, Nat.le_trans (Nat.add_le_add_left (by decide : 6 ≤ 24) n) hn⟩ dL_law_1863 ?_
    refine g_perm (LW_perm cy Ac aK Am qo qd σ' τ' f9 fd).symm ?_
    refine g_istore X dL_law_1866 (by decide) (lv' := [(7, .int v), (6, .int kq), (0, .ref b), (1, .ref (Ac 0)), (2, .ref (Am 0)), (3, .ref qo), (4, .ref qd), (5, .int i)]) rfl ?_
    refine g_aload_n X dL_law_1868 rfl 4 rfl ?_
    refine g_perm (LW_perm cy Ac aK Am qo qd σ' τ' f9 fd) ?_
    refine g_callVI (AD := Am) (E := mE cy Am) (L := mLs) (As := []) X (ZL_ok _ _ _ _ _) (mI_up (m_X11_thrown (σ := τ') (r := gi τ' 10) rfl)) (cwV 0 X.1.2.2.2.2 gZ_law_X11_thrown rfl rfl rfl (by decide +kernel) ⟨Nat.le_of_ble_eq_true rfl, Nat.le_of_ble_eq_true rfl⟩) rfl mm0 (mE_0 cy Am τ') rfl rfl (Nat.le_of_ble_eq_true rfl) ⟨Nat.le_trans (Nat.add_le_add_left (by decide : 1 ≤ 4) k) hk, Nat.le_trans (Nat.add_le_add_left (by decide : 6 ≤ 24) n) hn⟩ dL_law_1869 ?_
    refine g_perm (LW_perm cy Ac aK Am qo qd σ' τ' f9 fd).symm ?_
    refine g_iload X dL_law_1872 1 rfl ?_
    refine g_icmp_eq X (tgt := 1879) dL_law_1874 (by decide) (fun _ => ?_) (fun z => absurd hq z)
    refine g_iload X dL_law_1879 1 rfl ?_
    refine g_if_ne X (tgt := 1896) dL_law_1881 (by decide) (fun _ => fin) (fun z => ?_)
    refine g_aload_n X dL_law_1884 rfl 5 rfl ?_
    refine g_iconst X dL_law_1885 (v := (0 : Int32)) (by decide) ?_
    refine g_lald X 85 5 (cW_85 _ _ _ _ _) rfl (vp_in_nI (n := 0) (N := 1) (by decide) (by decide)) dL_law_1886 ?_
    have hf := hf z
    refine g_iload X dL_law_1887 0 rfl ?_
    refine g_i2l X dL_law_1889 ?_
    refine g_lcmp X dL_law_1890 ?_
    refine g_if_eq X (tgt := 1896) dL_law_1891 (by decide) (fun _ => fin) (fun z2 => absurd (show lg_cmp (f9 0) (v.toInt64) = 0 by rw [show f9 0 = v.toInt64 from hf]; exact cmp_self _) z2)
  rcases ho with ⟨x, rfl, rfl, h0⟩ | ⟨j, E9, rfl, hE, h0⟩
  · refine g_lawS (Wf := (oL cy Ac aK qo ((qd, .inl (cy 6, 1, .inr (.inr (.inr (.inl fd))))) :: wF Am (mE cy Am) mLs [] τ))) (u := (σ, fo)) (u' := (σ', (vp_updL fo 0 v.toInt64))) (As := [.ref (Ac 0), .int (xs (i + (1 : Int32)).toNatClampNeg), .ref qo]) X (ZL_ok _ _ _ _ _) (w_wrongPairs_ok hl hc) (vx_cwSW 3 X.1.2.2.2.2 gZ_law_L_wrongPairs rfl rfl rfl (by decide +kernel) ⟨Nat.le_of_ble_eq_true rfl, Nat.le_of_ble_eq_true rfl⟩) rfl rfl (Nat.le_of_ble_eq_true rfl) ⟨Nat.le_trans (Nat.add_le_add_left (by decide : 1 ≤ 4) k) hk, Nat.le_trans (Nat.add_le_add_left (by decide : 6 ≤ 24) n) hn⟩ dL_law_1851 (k' := (k + 1)) (n' := (n + 6)) (Nat.le_refl _) (Nat.le_refl _) rfl rfl ?_
    exact tail 0 _ h0 (fun _ => rfl)
  · match j, hE, h0 with
    | 0, hE, h0 =>
      cases hE
      refine g_lawS (Wf := (oL cy Ac aK qo ((qd, .inl (cy 6, 1, .inr (.inr (.inr (.inl fd))))) :: wF Am (mE cy Am) mLs [] τ))) (u := (σ, fo)) (u' := (σ', fo)) (As := [.ref (Ac 0), .int (xs (i + (1 : Int32)).toNatClampNeg), .ref qo]) X (ZL_ok _ _ _ _ _) (w_wrongPairs_x1 hl hc) (vx_cwSW 3 X.1.2.2.2.2 gZ_law_L_wrongPairs rfl rfl rfl (by decide +kernel) ⟨Nat.le_of_ble_eq_true rfl, Nat.le_of_ble_eq_true rfl⟩) rfl rfl (Nat.le_of_ble_eq_true rfl) ⟨Nat.le_trans (Nat.add_le_add_left (by decide : 1 ≤ 4) k) hk, Nat.le_trans (Nat.add_le_add_left (by decide : 6 ≤ 24) n) hn⟩ dL_law_1851 (k' := (k + 1)) (n' := (n + 6)) (Nat.le_refl _) (Nat.le_refl _) rfl rfl ?_
      exact tail 1 _ h0 (fun z => absurd z (by decide))
    | j + 1, hE, _ => exact nomatch hE
set_option maxHeartbeats 8000000 in
set_option maxRecDepth 100000 in
theorem law_c29 (X : gC (ZL aK aO aS aV aT) p s m args meth c D (cyT cy) A0 cL_law wzL_law RL 9 ret) (hl : l.stackTraces = false) (hX : va_X b L xs s s.heap) (hbl : b < s.heap.size) (hbA : ¬ A0 b) (h1 : vp_in (i + (1 : Int32)) L) (h2 : vp_in (i + (2 : Int32)) L) (h3 : vp_in (i + (3 : Int32)) L) (h4 : vp_in (i + (4 : Int32)) L) (hk : k + 4 ≤ room_1.cells) (hn : n + 24 ≤ room_1.slots) (h : REL a σ τ)
    (kk : ∀ (σ' τ' : St) (a' : AS) (fo' : Nat → Int64) (fd' : Nat → UInt64), REL a' σ' τ' → gG p l e room_1 s m args below meth c D (cyT cy) A0 9 Q (LW cy Ac aK Am qo qd σ' τ' fo' fd') (k + 4) (n + 24) 2302 [(0, .ref b), (1, .ref (Ac 0)), (2, .ref (Am 0)), (3, .ref qo), (4, .ref qd), (5, .int i)] []) : gG p l e room_1 s m args below meth c D (cyT cy) A0 9 Q (LW cy Ac aK Am qo qd σ τ fo fd) k n 1899 [(0, .ref b), (1, .ref (Ac 0)), (2, .ref (Am 0)), (3, .ref qo), (4, .ref qd), (5, .int i)] [] := by
  obtain ⟨r, σ', v, τ', a', hc, hm, hR, ho⟩ := P_unlike h ((xs (i + (1 : Int32)).toNatClampNeg))
  refine g_aload_n X dL_law_1899 rfl 1 rfl ?_
  refine g_aload_n X dL_law_1900 rfl 0 rfl ?_
  refine g_iload X dL_law_1901 5 rfl ?_
  refine g_iconst X dL_law_1903 (v := (1 : Int32)) (by decide) ?_
  refine g_iadd X dL_law_1904 ?_
  refine g_scld X hX hbl hbA h1 dL_law_1905 ?_
  refine g_aload_n X dL_law_1906 rfl 3 rfl ?_
  have tail : ∀ (kq : Int32) (f9 : Nat → Int64), gi τ' 10 = kq → (kq = 0 → f9 0 = v.toInt64) → gG p l e room_1 s m args below meth c D (cyT cy) A0 9 Q (LW cy Ac aK Am qo qd σ' τ f9 fd) (k + 1) (n + 6) 1910 [(0, .ref b), (1, .ref (Ac 0)), (2, .ref (Am 0)), (3, .ref qo), (4, .ref qd), (5, .int i)] [.int kq] := by
    intro kq f9 hq hf
    have fin : gG p l e room_1 s m args below meth c D (cyT cy) A0 9 Q (LW cy Ac aK Am qo qd σ' τ' f9 fd) (k + 1) (n + 6) 1952 [(7, .int v), (6, .int kq), (0, .ref b), (1, .ref (Ac 0)), (2, .ref (Am 0)), (3, .ref qo), (4, .ref qd), (5, .int i)] [] := g_goto X (tgt := 2302) dL_law_1952 (by decide) (g_sub [2, 3, 4, 5, 6, 7] rfl (g_wid (Nat.add_le_add_left (by decide) k) (Nat.add_le_add_left (by decide) n) (kk _ _ _ _ _ hR)))
    refine g_istore X dL_law_1910 (by decide) (lv' := [(6, .int kq), (0, .ref b), (1, .ref (Ac 0)), (2, .ref (Am 0)), (3, .ref qo), (4, .ref qd), (5, .int i)]) rfl ?_
    refine g_aload_n X dL_law_1912 rfl 3 rfl ?_
    refine g_aload_n X dL_law_1913 rfl 1 rfl ?_
    refine g_iload X dL_law_1914 6 rfl ?_
    refine g_iconst X dL_law_1916 (v := (1 : Int32)) (by decide) ?_
    refine g_iadd X dL_law_1917 ?_
    refine g_scld X hX hbl hbA h1 dL_law_1918 ?_
    refine g_perm (LW_perm cy Ac aK Am qo qd σ' τ f9 fd) ?_
    refine g_callVI (AD := Am) (E := mE cy Am) (L := mLs) (As := [.int (xs (i + (1 : Int32)).toNatClampNeg)]) X (ZL_ok _ _ _ _ _) (mI_up (m_X11_unlike hm)) (cwV 1 X.1.2.2.2.2 gZ_law_X11_unlike rfl rfl rfl (by decide +kernel) ⟨Nat.le_of_ble_eq_true rfl, Nat.le_of_ble_eq_true rfl⟩) rfl mm0 (mE_0 cy Am τ) rfl rfl (Nat.le_of_ble_eq_true rfl) ⟨Nat.le_trans (Nat.add_le_add_left (by decide : 1 ≤ 4) k) hk, Nat.le_trans (Nat.add_le_add_left (by decide : 6 ≤ 24) n) hn⟩ dL_law_1919 ?_
    refine g_perm (LW_perm cy Ac aK Am qo qd σ' τ' f9 fd).symm ?_
    refine g_istore X dL_law_1922 (by decide) (lv' := [(7, .int v), (6, .int kq), (0, .ref b), (1, .ref (Ac 0)), (2, .ref (Am 0)), (3, .ref qo), (4, .ref qd), (5, .int i)]) rfl ?_
    refine g_aload_n X dL_law_1924 rfl 4 rfl ?_
    refine g_perm (LW_perm cy Ac aK Am qo qd σ' τ' f9 fd) ?_
    refine g_callVI (AD := Am) (E := mE cy Am) (L := mLs) (As := []) X (ZL_ok _ _ _ _ _) (mI_up (m_X11_thrown (σ := τ') (r := gi τ' 10) rfl)) (cwV 0 X.1.2.2.2.2 gZ_law_X11_thrown rfl rfl rfl (by decide +kernel) ⟨Nat.le_of_ble_eq_true rfl, Nat.le_of_ble_eq_true rfl⟩) rfl mm0 (mE_0 cy Am τ') rfl rfl (Nat.le_of_ble_eq_true rfl) ⟨Nat.le_trans (Nat.add_le_add_left (by decide : 1 ≤ 4) k) hk, Nat.le_trans (Nat.add_le_add_left (by decide : 6 ≤ 24) n) hn⟩ dL_law_1925 ?_
    refine g_perm (LW_perm cy Ac aK Am qo qd σ' τ' f9 fd).symm ?_
    refine g_iload X dL_law_1928 1 rfl ?_
    refine g_icmp_eq X (tgt := 1935) dL_law_1930 (by decide) (fun _ => ?_) (fun z => absurd hq z)
    refine g_iload X dL_law_1935 1 rfl ?_
    refine g_if_ne X (tgt := 1952) dL_law_1937 (by decide) (fun _ => fin) (fun z => ?_)
    refine g_aload_n X dL_law_1940 rfl 5 rfl ?_
    refine g_iconst X dL_law_1941 (v := (0 : Int32)) (by decide) ?_
    refine g_lald X 85 5 (cW_85 _ _ _ _ _) rfl (vp_in_nI (n := 0) (N := 1) (by decide) (by decide)) dL_law_1942 ?_
    have hf := hf z
    refine g_iload X dL_law_1943 0 rfl ?_
    refine g_i2l X dL_law_1945 ?_
    refine g_lcmp X dL_law_1946 ?_
    refine g_if_eq X (tgt := 1952) dL_law_1947 (by decide) (fun _ => fin) (fun z2 => absurd (show lg_cmp (f9 0) (v.toInt64) = 0 by rw [show f9 0 = v.toInt64 from hf]; exact cmp_self _) z2)
  rcases ho with ⟨x, rfl, rfl, h0⟩ | ⟨j, E9, rfl, hE, h0⟩
  · refine g_lawS (Wf := (oL cy Ac aK qo ((qd, .inl (cy 6, 1, .inr (.inr (.inr (.inl fd))))) :: wF Am (mE cy Am) mLs [] τ))) (u := (σ, fo)) (u' := (σ', (vp_updL fo 0 v.toInt64))) (As := [.ref (Ac 0), .int (xs (i + (1 : Int32)).toNatClampNeg), .ref qo]) X (ZL_ok _ _ _ _ _) (w_unlike_ok hl hc) (vx_cwSW 3 X.1.2.2.2.2 gZ_law_L_unlike rfl rfl rfl (by decide +kernel) ⟨Nat.le_of_ble_eq_true rfl, Nat.le_of_ble_eq_true rfl⟩) rfl rfl (Nat.le_of_ble_eq_true rfl) ⟨Nat.le_trans (Nat.add_le_add_left (by decide : 1 ≤ 4) k) hk, Nat.le_trans (Nat.add_le_add_left (by decide : 6 ≤ 24) n) hn⟩ dL_law_1907 (k' := (k + 1)) (n' := (n + 6)) (Nat.le_refl _) (Nat.le_refl _) rfl rfl ?_
    exact tail 0 _ h0 (fun _ => rfl)
  · match j, hE, h0 with
    | 0, hE, h0 =>
      cases hE
      refine g_lawS (Wf := (oL cy Ac aK qo ((qd, .inl (cy 6, 1, .inr (.inr (.inr (.inl fd))))) :: wF Am (mE cy Am) mLs [] τ))) (u := (σ, fo)) (u' := (σ', fo)) (As := [.ref (Ac 0), .int (xs (i + (1 : Int32)).toNatClampNeg), .ref qo]) X (ZL_ok _ _ _ _ _) (w_unlike_x1 hl hc) (vx_cwSW 3 X.1.2.2.2.2 gZ_law_L_unlike rfl rfl rfl (by decide +kernel) ⟨Nat.le_of_ble_eq_true rfl, Nat.le_of_ble_eq_true rfl⟩) rfl rfl (Nat.le_of_ble_eq_true rfl) ⟨Nat.le_trans (Nat.add_le_add_left (by decide : 1 ≤ 4) k) hk, Nat.le_trans (Nat.add_le_add_left (by decide : 6 ≤ 24) n) hn⟩ dL_law_1907 (k' := (k + 1)) (n' := (n + 6)) (Nat.le_refl _) (Nat.le_refl _) rfl rfl ?_
      exact tail 1 _ h0 (fun z => absurd z (by decide))
    | j + 1, hE, _ => exact nomatch hE
end LC
