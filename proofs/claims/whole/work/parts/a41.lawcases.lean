section LC
variable {p : Program} {l : Launch} {e : Env} {s : State} {m : MethodId} {args : Array Value} {below : List Frame} {meth : Method} {c : Code} {D : va_G} {A0 : Nat → Prop} {Q : State → Prop} {cy : Nat → ClassId} {Ac aK Am aO aS aV aT : Nat → Nat} {qo qd b L k n : Nat} {xs : Nat → Int32} {i : Int32} {fo : Nat → Int64} {fd : Nat → UInt64} {a : AS} {σ τ : St}
set_option maxHeartbeats 8000000 in
set_option maxRecDepth 100000 in
theorem law_c8 (X : gC (ZL aK aO aS aV aT) p s m args meth c D (cyT cy) A0 cL_law wzL_law RL 9 ret) (hl : l.stackTraces = false) (hX : va_X b L xs s s.heap) (hbl : b < s.heap.size) (hbA : ¬ A0 b) (h1 : vp_in (i + (1 : Int32)) L) (h2 : vp_in (i + (2 : Int32)) L) (h3 : vp_in (i + (3 : Int32)) L) (h4 : vp_in (i + (4 : Int32)) L) (hk : k + 4 ≤ room_1.cells) (hn : n + 24 ≤ room_1.slots) (h : REL a σ τ)
    (kk : ∀ (σ' τ' : St) (a' : AS) (fo' : Nat → Int64) (fd' : Nat → UInt64), REL a' σ' τ' → gG p l e room_1 s m args below meth c D (cyT cy) A0 9 Q (LW cy Ac aK Am qo qd σ' τ' fo' fd') (k + 4) (n + 24) 2302 [(0, .ref b), (1, .ref (Ac 0)), (2, .ref (Am 0)), (3, .ref qo), (4, .ref qd), (5, .int i)] []) : gG p l e room_1 s m args below meth c D (cyT cy) A0 9 Q (LW cy Ac aK Am qo qd σ τ fo fd) k n 560 [(0, .ref b), (1, .ref (Ac 0)), (2, .ref (Am 0)), (3, .ref qo), (4, .ref qd), (5, .int i)] [] := by
  obtain ⟨r, σ', v, τ', a', hc, hm, hR, ho⟩ := P_sortPart h ((xs (i + (1 : Int32)).toNatClampNeg)) ((xs (i + (2 : Int32)).toNatClampNeg)) ((xs (i + (3 : Int32)).toNatClampNeg))
  refine g_aload_n X dL_law_560 rfl 1 rfl ?_
  refine g_aload_n X dL_law_561 rfl 0 rfl ?_
  refine g_iload X dL_law_562 5 rfl ?_
  refine g_iconst X dL_law_564 (v := (1 : Int32)) (by decide) ?_
  refine g_iadd X dL_law_565 ?_
  refine g_scld X hX hbl hbA h1 dL_law_566 ?_
  refine g_aload_n X dL_law_567 rfl 0 rfl ?_
  refine g_iload X dL_law_568 5 rfl ?_
  refine g_iconst X dL_law_570 (v := (2 : Int32)) (by decide) ?_
  refine g_iadd X dL_law_571 ?_
  refine g_scld X hX hbl hbA h2 dL_law_572 ?_
  refine g_aload_n X dL_law_573 rfl 0 rfl ?_
  refine g_iload X dL_law_574 5 rfl ?_
  refine g_iconst X dL_law_576 (v := (3 : Int32)) (by decide) ?_
  refine g_iadd X dL_law_577 ?_
  refine g_scld X hX hbl hbA h3 dL_law_578 ?_
  refine g_aload_n X dL_law_579 rfl 3 rfl ?_
  have tail : ∀ (kq : Int32) (f9 : Nat → Int64), gi τ' 10 = kq → (kq = 0 → f9 0 = v.toInt64) → gG p l e room_1 s m args below meth c D (cyT cy) A0 9 Q (LW cy Ac aK Am qo qd σ' τ f9 fd) (k + 2) (n + 12) 583 [(0, .ref b), (1, .ref (Ac 0)), (2, .ref (Am 0)), (3, .ref qo), (4, .ref qd), (5, .int i)] [.int kq] := by
    intro kq f9 hq hf
    have fin : gG p l e room_1 s m args below meth c D (cyT cy) A0 9 Q (LW cy Ac aK Am qo qd σ' τ' f9 fd) (k + 2) (n + 12) 637 [(7, .int v), (6, .int kq), (0, .ref b), (1, .ref (Ac 0)), (2, .ref (Am 0)), (3, .ref qo), (4, .ref qd), (5, .int i)] [] := g_goto X (tgt := 2302) dL_law_637 (by decide) (g_sub [2, 3, 4, 5, 6, 7] rfl (g_wid (Nat.add_le_add_left (by decide) k) (Nat.add_le_add_left (by decide) n) (kk _ _ _ _ _ hR)))
    refine g_istore X dL_law_583 (by decide) (lv' := [(6, .int kq), (0, .ref b), (1, .ref (Ac 0)), (2, .ref (Am 0)), (3, .ref qo), (4, .ref qd), (5, .int i)]) rfl ?_
    refine g_aload_n X dL_law_585 rfl 3 rfl ?_
    refine g_aload_n X dL_law_586 rfl 1 rfl ?_
    refine g_iload X dL_law_587 6 rfl ?_
    refine g_iconst X dL_law_589 (v := (1 : Int32)) (by decide) ?_
    refine g_iadd X dL_law_590 ?_
    refine g_scld X hX hbl hbA h1 dL_law_591 ?_
    refine g_aload_n X dL_law_592 rfl 1 rfl ?_
    refine g_iload X dL_law_593 6 rfl ?_
    refine g_iconst X dL_law_595 (v := (2 : Int32)) (by decide) ?_
    refine g_iadd X dL_law_596 ?_
    refine g_scld X hX hbl hbA h2 dL_law_597 ?_
    refine g_aload_n X dL_law_598 rfl 1 rfl ?_
    refine g_iload X dL_law_599 6 rfl ?_
    refine g_iconst X dL_law_601 (v := (3 : Int32)) (by decide) ?_
    refine g_iadd X dL_law_602 ?_
    refine g_scld X hX hbl hbA h3 dL_law_603 ?_
    refine g_perm (LW_perm cy Ac aK Am qo qd σ' τ f9 fd) ?_
    refine g_callVI (AD := Am) (E := mE cy Am) (L := mLs) (As := [.int (xs (i + (1 : Int32)).toNatClampNeg), .int (xs (i + (2 : Int32)).toNatClampNeg), .int (xs (i + (3 : Int32)).toNatClampNeg)]) X (ZL_ok _ _ _ _ _) (mI_up (m_X11_sortPart hm)) (cwV 3 X.1.2.2.2.2 gZ_law_X11_sortPart rfl rfl rfl (by decide +kernel) ⟨Nat.le_of_ble_eq_true rfl, Nat.le_of_ble_eq_true rfl⟩) rfl mm0 (mE_0 cy Am τ) rfl rfl (Nat.le_of_ble_eq_true rfl) ⟨Nat.le_trans (Nat.add_le_add_left (by decide : 2 ≤ 4) k) hk, Nat.le_trans (Nat.add_le_add_left (by decide : 12 ≤ 24) n) hn⟩ dL_law_604 ?_
    refine g_perm (LW_perm cy Ac aK Am qo qd σ' τ' f9 fd).symm ?_
    refine g_istore X dL_law_607 (by decide) (lv' := [(7, .int v), (6, .int kq), (0, .ref b), (1, .ref (Ac 0)), (2, .ref (Am 0)), (3, .ref qo), (4, .ref qd), (5, .int i)]) rfl ?_
    refine g_aload_n X dL_law_609 rfl 4 rfl ?_
    refine g_perm (LW_perm cy Ac aK Am qo qd σ' τ' f9 fd) ?_
    refine g_callVI (AD := Am) (E := mE cy Am) (L := mLs) (As := []) X (ZL_ok _ _ _ _ _) (mI_up (m_X11_thrown (σ := τ') (r := gi τ' 10) rfl)) (cwV 0 X.1.2.2.2.2 gZ_law_X11_thrown rfl rfl rfl (by decide +kernel) ⟨Nat.le_of_ble_eq_true rfl, Nat.le_of_ble_eq_true rfl⟩) rfl mm0 (mE_0 cy Am τ') rfl rfl (Nat.le_of_ble_eq_true rfl) ⟨Nat.le_trans (Nat.add_le_add_left (by decide : 2 ≤ 4) k) hk, Nat.le_trans (Nat.add_le_add_left (by decide : 12 ≤ 24) n) hn⟩ dL_law_610 ?_
    refine g_perm (LW_perm cy Ac aK Am qo qd σ' τ' f9 fd).symm ?_
    refine g_iload X dL_law_613 1 rfl ?_
    refine g_icmp_eq X (tgt := 620) dL_law_615 (by decide) (fun _ => ?_) (fun z => absurd hq z)
    refine g_iload X dL_law_620 1 rfl ?_
    refine g_if_ne X (tgt := 637) dL_law_622 (by decide) (fun _ => fin) (fun z => ?_)
    refine g_aload_n X dL_law_625 rfl 5 rfl ?_
    refine g_iconst X dL_law_626 (v := (0 : Int32)) (by decide) ?_
    refine g_lald X 85 5 (cW_85 _ _ _ _ _) rfl (vp_in_nI (n := 0) (N := 1) (by decide) (by decide)) dL_law_627 ?_
    have hf := hf z
    refine g_iload X dL_law_628 0 rfl ?_
    refine g_i2l X dL_law_630 ?_
    refine g_lcmp X dL_law_631 ?_
    refine g_if_eq X (tgt := 637) dL_law_632 (by decide) (fun _ => fin) (fun z2 => absurd (show lg_cmp (f9 0) (v.toInt64) = 0 by rw [show f9 0 = v.toInt64 from hf]; exact cmp_self _) z2)
  rcases ho with ⟨x, rfl, rfl, h0⟩ | ⟨j, E9, rfl, hE, h0⟩
  · refine g_lawS (Wf := (oL cy Ac aK qo ((qd, .inl (cy 6, 1, .inr (.inr (.inr (.inl fd))))) :: wF Am (mE cy Am) mLs [] τ))) (u := (σ, fo)) (u' := (σ', (vp_updL fo 0 v.toInt64))) (As := [.ref (Ac 0), .int (xs (i + (1 : Int32)).toNatClampNeg), .int (xs (i + (2 : Int32)).toNatClampNeg), .int (xs (i + (3 : Int32)).toNatClampNeg), .ref qo]) X (ZL_ok _ _ _ _ _) (w_sortPart_ok hl hc) (vx_cwSW 5 X.1.2.2.2.2 gZ_law_L_sortPart rfl rfl rfl (by decide +kernel) ⟨Nat.le_of_ble_eq_true rfl, Nat.le_of_ble_eq_true rfl⟩) rfl rfl (Nat.le_of_ble_eq_true rfl) ⟨Nat.le_trans (Nat.add_le_add_left (by decide : 2 ≤ 4) k) hk, Nat.le_trans (Nat.add_le_add_left (by decide : 12 ≤ 24) n) hn⟩ dL_law_580 (k' := (k + 2)) (n' := (n + 12)) (Nat.le_refl _) (Nat.le_refl _) rfl rfl ?_
    exact tail 0 _ h0 (fun _ => rfl)
  · match j, hE, h0 with
    | 0, hE, h0 =>
      cases hE
      refine g_lawS (Wf := (oL cy Ac aK qo ((qd, .inl (cy 6, 1, .inr (.inr (.inr (.inl fd))))) :: wF Am (mE cy Am) mLs [] τ))) (u := (σ, fo)) (u' := (σ', fo)) (As := [.ref (Ac 0), .int (xs (i + (1 : Int32)).toNatClampNeg), .int (xs (i + (2 : Int32)).toNatClampNeg), .int (xs (i + (3 : Int32)).toNatClampNeg), .ref qo]) X (ZL_ok _ _ _ _ _) (w_sortPart_x1 hl hc) (vx_cwSW 5 X.1.2.2.2.2 gZ_law_L_sortPart rfl rfl rfl (by decide +kernel) ⟨Nat.le_of_ble_eq_true rfl, Nat.le_of_ble_eq_true rfl⟩) rfl rfl (Nat.le_of_ble_eq_true rfl) ⟨Nat.le_trans (Nat.add_le_add_left (by decide : 2 ≤ 4) k) hk, Nat.le_trans (Nat.add_le_add_left (by decide : 12 ≤ 24) n) hn⟩ dL_law_580 (k' := (k + 2)) (n' := (n + 12)) (Nat.le_refl _) (Nat.le_refl _) rfl rfl ?_
      exact tail 1 _ h0 (fun z => absurd z (by decide))
    | 1, hE, h0 =>
      cases hE
      refine g_lawS (Wf := (oL cy Ac aK qo ((qd, .inl (cy 6, 1, .inr (.inr (.inr (.inl fd))))) :: wF Am (mE cy Am) mLs [] τ))) (u := (σ, fo)) (u' := (σ', fo)) (As := [.ref (Ac 0), .int (xs (i + (1 : Int32)).toNatClampNeg), .int (xs (i + (2 : Int32)).toNatClampNeg), .int (xs (i + (3 : Int32)).toNatClampNeg), .ref qo]) X (ZL_ok _ _ _ _ _) (w_sortPart_x2 hl hc) (vx_cwSW 5 X.1.2.2.2.2 gZ_law_L_sortPart rfl rfl rfl (by decide +kernel) ⟨Nat.le_of_ble_eq_true rfl, Nat.le_of_ble_eq_true rfl⟩) rfl rfl (Nat.le_of_ble_eq_true rfl) ⟨Nat.le_trans (Nat.add_le_add_left (by decide : 2 ≤ 4) k) hk, Nat.le_trans (Nat.add_le_add_left (by decide : 12 ≤ 24) n) hn⟩ dL_law_580 (k' := (k + 2)) (n' := (n + 12)) (Nat.le_refl _) (Nat.le_refl _) rfl rfl ?_
      exact tail 2 _ h0 (fun z => absurd z (by decide))
    | j + 2, hE, _ => exact nomatch hE
set_option maxHeartbeats 8000000 in
set_option maxRecDepth 100000 in
theorem law_c9 (X : gC (ZL aK aO aS aV aT) p s m args meth c D (cyT cy) A0 cL_law wzL_law RL 9 ret) (hl : l.stackTraces = false) (hX : va_X b L xs s s.heap) (hbl : b < s.heap.size) (hbA : ¬ A0 b) (h1 : vp_in (i + (1 : Int32)) L) (h2 : vp_in (i + (2 : Int32)) L) (h3 : vp_in (i + (3 : Int32)) L) (h4 : vp_in (i + (4 : Int32)) L) (hk : k + 4 ≤ room_1.cells) (hn : n + 24 ≤ room_1.slots) (h : REL a σ τ)
    (kk : ∀ (σ' τ' : St) (a' : AS) (fo' : Nat → Int64) (fd' : Nat → UInt64), REL a' σ' τ' → gG p l e room_1 s m args below meth c D (cyT cy) A0 9 Q (LW cy Ac aK Am qo qd σ' τ' fo' fd') (k + 4) (n + 24) 2302 [(0, .ref b), (1, .ref (Ac 0)), (2, .ref (Am 0)), (3, .ref qo), (4, .ref qd), (5, .int i)] []) : gG p l e room_1 s m args below meth c D (cyT cy) A0 9 Q (LW cy Ac aK Am qo qd σ τ fo fd) k n 640 [(0, .ref b), (1, .ref (Ac 0)), (2, .ref (Am 0)), (3, .ref qo), (4, .ref qd), (5, .int i)] [] := by
  obtain ⟨r, σ', v, τ', a', hc, hm, hR, ho⟩ := P_sortDown h ((xs (i + (1 : Int32)).toNatClampNeg)) ((xs (i + (2 : Int32)).toNatClampNeg)) ((xs (i + (3 : Int32)).toNatClampNeg))
  refine g_aload_n X dL_law_640 rfl 1 rfl ?_
  refine g_aload_n X dL_law_641 rfl 0 rfl ?_
  refine g_iload X dL_law_642 5 rfl ?_
  refine g_iconst X dL_law_644 (v := (1 : Int32)) (by decide) ?_
  refine g_iadd X dL_law_645 ?_
  refine g_scld X hX hbl hbA h1 dL_law_646 ?_
  refine g_aload_n X dL_law_647 rfl 0 rfl ?_
  refine g_iload X dL_law_648 5 rfl ?_
  refine g_iconst X dL_law_650 (v := (2 : Int32)) (by decide) ?_
  refine g_iadd X dL_law_651 ?_
  refine g_scld X hX hbl hbA h2 dL_law_652 ?_
  refine g_aload_n X dL_law_653 rfl 0 rfl ?_
  refine g_iload X dL_law_654 5 rfl ?_
  refine g_iconst X dL_law_656 (v := (3 : Int32)) (by decide) ?_
  refine g_iadd X dL_law_657 ?_
  refine g_scld X hX hbl hbA h3 dL_law_658 ?_
  refine g_aload_n X dL_law_659 rfl 3 rfl ?_
  have tail : ∀ (kq : Int32) (f9 : Nat → Int64), gi τ' 10 = kq → (kq = 0 → f9 0 = v.toInt64) → gG p l e room_1 s m args below meth c D (cyT cy) A0 9 Q (LW cy Ac aK Am qo qd σ' τ f9 fd) (k + 3) (n + 18) 663 [(0, .ref b), (1, .ref (Ac 0)), (2, .ref (Am 0)), (3, .ref qo), (4, .ref qd), (5, .int i)] [.int kq] := by
    intro kq f9 hq hf
    have fin : gG p l e room_1 s m args below meth c D (cyT cy) A0 9 Q (LW cy Ac aK Am qo qd σ' τ' f9 fd) (k + 3) (n + 18) 717 [(7, .int v), (6, .int kq), (0, .ref b), (1, .ref (Ac 0)), (2, .ref (Am 0)), (3, .ref qo), (4, .ref qd), (5, .int i)] [] := g_goto X (tgt := 2302) dL_law_717 (by decide) (g_sub [2, 3, 4, 5, 6, 7] rfl (g_wid (Nat.add_le_add_left (by decide) k) (Nat.add_le_add_left (by decide) n) (kk _ _ _ _ _ hR)))
    refine g_istore X dL_law_663 (by decide) (lv' := [(6, .int kq), (0, .ref b), (1, .ref (Ac 0)), (2, .ref (Am 0)), (3, .ref qo), (4, .ref qd), (5, .int i)]) rfl ?_
    refine g_aload_n X dL_law_665 rfl 3 rfl ?_
    refine g_aload_n X dL_law_666 rfl 1 rfl ?_
    refine g_iload X dL_law_667 6 rfl ?_
    refine g_iconst X dL_law_669 (v := (1 : Int32)) (by decide) ?_
    refine g_iadd X dL_law_670 ?_
    refine g_scld X hX hbl hbA h1 dL_law_671 ?_
    refine g_aload_n X dL_law_672 rfl 1 rfl ?_
    refine g_iload X dL_law_673 6 rfl ?_
    refine g_iconst X dL_law_675 (v := (2 : Int32)) (by decide) ?_
    refine g_iadd X dL_law_676 ?_
    refine g_scld X hX hbl hbA h2 dL_law_677 ?_
    refine g_aload_n X dL_law_678 rfl 1 rfl ?_
    refine g_iload X dL_law_679 6 rfl ?_
    refine g_iconst X dL_law_681 (v := (3 : Int32)) (by decide) ?_
    refine g_iadd X dL_law_682 ?_
    refine g_scld X hX hbl hbA h3 dL_law_683 ?_
    refine g_perm (LW_perm cy Ac aK Am qo qd σ' τ f9 fd) ?_
    refine g_callVI (AD := Am) (E := mE cy Am) (L := mLs) (As := [.int (xs (i + (1 : Int32)).toNatClampNeg), .int (xs (i + (2 : Int32)).toNatClampNeg), .int (xs (i + (3 : Int32)).toNatClampNeg)]) X (ZL_ok _ _ _ _ _) (mI_up (m_X11_sortDown hm)) (cwV 3 X.1.2.2.2.2 gZ_law_X11_sortDown rfl rfl rfl (by decide +kernel) ⟨Nat.le_of_ble_eq_true rfl, Nat.le_of_ble_eq_true rfl⟩) rfl mm0 (mE_0 cy Am τ) rfl rfl (Nat.le_of_ble_eq_true rfl) ⟨Nat.le_trans (Nat.add_le_add_left (by decide : 3 ≤ 4) k) hk, Nat.le_trans (Nat.add_le_add_left (by decide : 18 ≤ 24) n) hn⟩ dL_law_684 ?_
    refine g_perm (LW_perm cy Ac aK Am qo qd σ' τ' f9 fd).symm ?_
    refine g_istore X dL_law_687 (by decide) (lv' := [(7, .int v), (6, .int kq), (0, .ref b), (1, .ref (Ac 0)), (2, .ref (Am 0)), (3, .ref qo), (4, .ref qd), (5, .int i)]) rfl ?_
    refine g_aload_n X dL_law_689 rfl 4 rfl ?_
    refine g_perm (LW_perm cy Ac aK Am qo qd σ' τ' f9 fd) ?_
    refine g_callVI (AD := Am) (E := mE cy Am) (L := mLs) (As := []) X (ZL_ok _ _ _ _ _) (mI_up (m_X11_thrown (σ := τ') (r := gi τ' 10) rfl)) (cwV 0 X.1.2.2.2.2 gZ_law_X11_thrown rfl rfl rfl (by decide +kernel) ⟨Nat.le_of_ble_eq_true rfl, Nat.le_of_ble_eq_true rfl⟩) rfl mm0 (mE_0 cy Am τ') rfl rfl (Nat.le_of_ble_eq_true rfl) ⟨Nat.le_trans (Nat.add_le_add_left (by decide : 3 ≤ 4) k) hk, Nat.le_trans (Nat.add_le_add_left (by decide : 18 ≤ 24) n) hn⟩ dL_law_690 ?_
    refine g_perm (LW_perm cy Ac aK Am qo qd σ' τ' f9 fd).symm ?_
    refine g_iload X dL_law_693 1 rfl ?_
    refine g_icmp_eq X (tgt := 700) dL_law_695 (by decide) (fun _ => ?_) (fun z => absurd hq z)
    refine g_iload X dL_law_700 1 rfl ?_
    refine g_if_ne X (tgt := 717) dL_law_702 (by decide) (fun _ => fin) (fun z => ?_)
    refine g_aload_n X dL_law_705 rfl 5 rfl ?_
    refine g_iconst X dL_law_706 (v := (0 : Int32)) (by decide) ?_
    refine g_lald X 85 5 (cW_85 _ _ _ _ _) rfl (vp_in_nI (n := 0) (N := 1) (by decide) (by decide)) dL_law_707 ?_
    have hf := hf z
    refine g_iload X dL_law_708 0 rfl ?_
    refine g_i2l X dL_law_710 ?_
    refine g_lcmp X dL_law_711 ?_
    refine g_if_eq X (tgt := 717) dL_law_712 (by decide) (fun _ => fin) (fun z2 => absurd (show lg_cmp (f9 0) (v.toInt64) = 0 by rw [show f9 0 = v.toInt64 from hf]; exact cmp_self _) z2)
  rcases ho with ⟨x, rfl, rfl, h0⟩ | ⟨j, E9, rfl, hE, h0⟩
  · refine g_lawS (Wf := (oL cy Ac aK qo ((qd, .inl (cy 6, 1, .inr (.inr (.inr (.inl fd))))) :: wF Am (mE cy Am) mLs [] τ))) (u := (σ, fo)) (u' := (σ', (vp_updL fo 0 v.toInt64))) (As := [.ref (Ac 0), .int (xs (i + (1 : Int32)).toNatClampNeg), .int (xs (i + (2 : Int32)).toNatClampNeg), .int (xs (i + (3 : Int32)).toNatClampNeg), .ref qo]) X (ZL_ok _ _ _ _ _) (w_sortDown_ok hl hc) (vx_cwSW 5 X.1.2.2.2.2 gZ_law_L_sortDown rfl rfl rfl (by decide +kernel) ⟨Nat.le_of_ble_eq_true rfl, Nat.le_of_ble_eq_true rfl⟩) rfl rfl (Nat.le_of_ble_eq_true rfl) ⟨Nat.le_trans (Nat.add_le_add_left (by decide : 3 ≤ 4) k) hk, Nat.le_trans (Nat.add_le_add_left (by decide : 18 ≤ 24) n) hn⟩ dL_law_660 (k' := (k + 3)) (n' := (n + 18)) (Nat.le_refl _) (Nat.le_refl _) rfl rfl ?_
    exact tail 0 _ h0 (fun _ => rfl)
  · match j, hE, h0 with
    | 0, hE, h0 =>
      cases hE
      refine g_lawS (Wf := (oL cy Ac aK qo ((qd, .inl (cy 6, 1, .inr (.inr (.inr (.inl fd))))) :: wF Am (mE cy Am) mLs [] τ))) (u := (σ, fo)) (u' := (σ', fo)) (As := [.ref (Ac 0), .int (xs (i + (1 : Int32)).toNatClampNeg), .int (xs (i + (2 : Int32)).toNatClampNeg), .int (xs (i + (3 : Int32)).toNatClampNeg), .ref qo]) X (ZL_ok _ _ _ _ _) (w_sortDown_x1 hl hc) (vx_cwSW 5 X.1.2.2.2.2 gZ_law_L_sortDown rfl rfl rfl (by decide +kernel) ⟨Nat.le_of_ble_eq_true rfl, Nat.le_of_ble_eq_true rfl⟩) rfl rfl (Nat.le_of_ble_eq_true rfl) ⟨Nat.le_trans (Nat.add_le_add_left (by decide : 3 ≤ 4) k) hk, Nat.le_trans (Nat.add_le_add_left (by decide : 18 ≤ 24) n) hn⟩ dL_law_660 (k' := (k + 3)) (n' := (n + 18)) (Nat.le_refl _) (Nat.le_refl _) rfl rfl ?_
      exact tail 1 _ h0 (fun z => absurd z (by decide))
    | 1, hE, h0 =>
      cases hE
      refine g_lawS (Wf := (oL cy Ac aK qo ((qd, .inl (cy 6, 1, .inr (.inr (.inr (.inl fd))))) :: wF Am (mE cy Am) mLs [] τ))) (u := (σ, fo)) (u' := (σ', fo)) (As := [.ref (Ac 0), .int (xs (i + (1 : Int32)).toNatClampNeg), .int (xs (i + (2 : Int32)).toNatClampNeg), .int (xs (i + (3 : Int32)).toNatClampNeg), .ref qo]) X (ZL_ok _ _ _ _ _) (w_sortDown_x2 hl hc) (vx_cwSW 5 X.1.2.2.2.2 gZ_law_L_sortDown rfl rfl rfl (by decide +kernel) ⟨Nat.le_of_ble_eq_true rfl, Nat.le_of_ble_eq_true rfl⟩) rfl rfl (Nat.le_of_ble_eq_true rfl) ⟨Nat.le_trans (Nat.add_le_add_left (by decide : 3 ≤ 4) k) hk, Nat.le_trans (Nat.add_le_add_left (by decide : 18 ≤ 24) n) hn⟩ dL_law_660 (k' := (k + 3)) (n' := (n + 18)) (Nat.le_refl _) (Nat.le_refl _) rfl rfl ?_
      exact tail 2 _ h0 (fun z => absurd z (by decide))
    | j + 2, hE, _ => exact nomatch hE
set_option maxHeartbeats 8000000 in
set_option maxRecDepth 100000 in
theorem law_c10 (X : gC (ZL aK aO aS aV aT) p s m args meth c D (cyT cy) A0 cL_law wzL_law RL 9 ret) (hl : l.stackTraces = false) (hX : va_X b L xs s s.heap) (hbl : b < s.heap.size) (hbA : ¬ A0 b) (h1 : vp_in (i + (1 : Int32)) L) (h2 : vp_in (i + (2 : Int32)) L) (h3 : vp_in (i + (3 : Int32)) L) (h4 : vp_in (i + (4 : Int32)) L) (hk : k + 4 ≤ room_1.cells) (hn : n + 24 ≤ room_1.slots) (h : REL a σ τ)
    (kk : ∀ (σ' τ' : St) (a' : AS) (fo' : Nat → Int64) (fd' : Nat → UInt64), REL a' σ' τ' → gG p l e room_1 s m args below meth c D (cyT cy) A0 9 Q (LW cy Ac aK Am qo qd σ' τ' fo' fd') (k + 4) (n + 24) 2302 [(0, .ref b), (1, .ref (Ac 0)), (2, .ref (Am 0)), (3, .ref qo), (4, .ref qd), (5, .int i)] []) : gG p l e room_1 s m args below meth c D (cyT cy) A0 9 Q (LW cy Ac aK Am qo qd σ τ fo fd) k n 720 [(0, .ref b), (1, .ref (Ac 0)), (2, .ref (Am 0)), (3, .ref qo), (4, .ref qd), (5, .int i)] [] := by
  obtain ⟨r, σ', v, τ', a', hc, hm, hR, ho⟩ := P_sortBySecond h ((xs (i + (1 : Int32)).toNatClampNeg))
  refine g_aload_n X dL_law_720 rfl 1 rfl ?_
  refine g_aload_n X dL_law_721 rfl 0 rfl ?_
  refine g_iload X dL_law_722 5 rfl ?_
  refine g_iconst X dL_law_724 (v := (1 : Int32)) (by decide) ?_
  refine g_iadd X dL_law_725 ?_
  refine g_scld X hX hbl hbA h1 dL_law_726 ?_
  refine g_aload_n X dL_law_727 rfl 3 rfl ?_
  have tail : ∀ (kq : Int32) (f9 : Nat → Int64), gi τ' 10 = kq → (kq = 0 → f9 0 = v.toInt64) → gG p l e room_1 s m args below meth c D (cyT cy) A0 9 Q (LW cy Ac aK Am qo qd σ' τ f9 fd) (k + 1) (n + 6) 731 [(0, .ref b), (1, .ref (Ac 0)), (2, .ref (Am 0)), (3, .ref qo), (4, .ref qd), (5, .int i)] [.int kq] := by
    intro kq f9 hq hf
    have fin : gG p l e room_1 s m args below meth c D (cyT cy) A0 9 Q (LW cy Ac aK Am qo qd σ' τ' f9 fd) (k + 1) (n + 6) 773 [(7, .int v), (6, .int kq), (0, .ref b), (1, .ref (Ac 0)), (2, .ref (Am 0)), (3, .ref qo), (4, .ref qd), (5, .int i)] [] := g_goto X (tgt := 2302) dL_law_773 (by decide) (g_sub [2, 3, 4, 5, 6, 7] rfl (g_wid (Nat.add_le_add_left (by decide) k) (Nat.add_le_add_left (by decide) n) (kk _ _ _ _ _ hR)))
    refine g_istore X dL_law_731 (by decide) (lv' := [(6, .int kq), (0, .ref b), (1, .ref (Ac 0)), (2, .ref (Am 0)), (3, .ref qo), (4, .ref qd), (5, .int i)]) rfl ?_
    refine g_aload_n X dL_law_733 rfl 3 rfl ?_
    refine g_aload_n X dL_law_734 rfl 1 rfl ?_
    refine g_iload X dL_law_735 6 rfl ?_
    refine g_iconst X dL_law_737 (v := (1 : Int32)) (by decide) ?_
    refine g_iadd X dL_law_738 ?_
    refine g_scld X hX hbl hbA h1 dL_law_739 ?_
    refine g_perm (LW_perm cy Ac aK Am qo qd σ' τ f9 fd) ?_
    refine g_callVI (AD := Am) (E := mE cy Am) (L := mLs) (As := [.int (xs (i + (1 : Int32)).toNatClampNeg)]) X (ZL_ok _ _ _ _ _) (mI_up (m_X11_sortBySecond hm)) (cwV 1 X.1.2.2.2.2 gZ_law_X11_sortBySecond rfl rfl rfl (by decide +kernel) ⟨Nat.le_of_ble_eq_true rfl, Nat.le_of_ble_eq_true rfl⟩) rfl mm0 (mE_0 cy Am τ) rfl rfl (Nat.le_of_ble_eq_true rfl) ⟨Nat.le_trans (Nat.add_le_add_left (by decide : 1 ≤ 4) k) hk, Nat.le_trans (Nat.add_le_add_left (by decide : 6 ≤ 24) n) hn⟩ dL_law_740 ?_
    refine g_perm (LW_perm cy Ac aK Am qo qd σ' τ' f9 fd).symm ?_
    refine g_istore X dL_law_743 (by decide) (lv' := [(7, .int v), (6, .int kq), (0, .ref b), (1, .ref (Ac 0)), (2, .ref (Am 0)), (3, .ref qo), (4, .ref qd), (5, .int i)]) rfl ?_
    refine g_aload_n X dL_law_745 rfl 4 rfl ?_
    refine g_perm (LW_perm cy Ac aK Am qo qd σ' τ' f9 fd) ?_
    refine g_callVI (AD := Am) (E := mE cy Am) (L := mLs) (As := []) X (ZL_ok _ _ _ _ _) (mI_up (m_X11_thrown (σ := τ') (r := gi τ' 10) rfl)) (cwV 0 X.1.2.2.2.2 gZ_law_X11_thrown rfl rfl rfl (by decide +kernel) ⟨Nat.le_of_ble_eq_true rfl, Nat.le_of_ble_eq_true rfl⟩) rfl mm0 (mE_0 cy Am τ') rfl rfl (Nat.le_of_ble_eq_true rfl) ⟨Nat.le_trans (Nat.add_le_add_left (by decide : 1 ≤ 4) k) hk, Nat.le_trans (Nat.add_le_add_left (by decide : 6 ≤ 24) n) hn⟩ dL_law_746 ?_
    refine g_perm (LW_perm cy Ac aK Am qo qd σ' τ' f9 fd).symm ?_
    refine g_iload X dL_law_749 1 rfl ?_
    refine g_icmp_eq X (tgt := 756) dL_law_751 (by decide) (fun _ => ?_) (fun z => absurd hq z)
    refine g_iload X dL_law_756 1 rfl ?_
    refine g_if_ne X (tgt := 773) dL_law_758 (by decide) (fun _ => fin) (fun z => ?_)
    refine g_aload_n X dL_law_761 rfl 5 rfl ?_
    refine g_iconst X dL_law_762 (v := (0 : Int32)) (by decide) ?_
    refine g_lald X 85 5 (cW_85 _ _ _ _ _) rfl (vp_in_nI (n := 0) (N := 1) (by decide) (by decide)) dL_law_763 ?_
    have hf := hf z
    refine g_iload X dL_law_764 0 rfl ?_
    refine g_i2l X dL_law_766 ?_
    refine g_lcmp X dL_law_767 ?_
    refine g_if_eq X (tgt := 773) dL_law_768 (by decide) (fun _ => fin) (fun z2 => absurd (show lg_cmp (f9 0) (v.toInt64) = 0 by rw [show f9 0 = v.toInt64 from hf]; exact cmp_self _) z2)
  rcases ho with ⟨x, rfl, rfl, h0⟩ | ⟨j, E9, rfl, hE, h0⟩
  · refine g_lawS (Wf := (oL cy Ac aK qo ((qd, .inl (cy 6, 1, .inr (.inr (.inr (.inl fd))))) :: wF Am (mE cy Am) mLs [] τ))) (u := (σ, fo)) (u' := (σ', (vp_updL fo 0 v.toInt64))) (As := [.ref (Ac 0), .int (xs (i + (1 : Int32)).toNatClampNeg), .ref qo]) X (ZL_ok _ _ _ _ _) (w_sortBySecond_ok hl hc) (vx_cwSW 3 X.1.2.2.2.2 gZ_law_L_sortBySecond rfl rfl rfl (by decide +kernel) ⟨Nat.le_of_ble_eq_true rfl, Nat.le_of_ble_eq_true rfl⟩) rfl rfl (Nat.le_of_ble_eq_true rfl) ⟨Nat.le_trans (Nat.add_le_add_left (by decide : 1 ≤ 4) k) hk, Nat.le_trans (Nat.add_le_add_left (by decide : 6 ≤ 24) n) hn⟩ dL_law_728 (k' := (k + 1)) (n' := (n + 6)) (Nat.le_refl _) (Nat.le_refl _) rfl rfl ?_
    exact tail 0 _ h0 (fun _ => rfl)
  · match j, hE, h0 with
    | 0, hE, h0 =>
      cases hE
      refine g_lawS (Wf := (oL cy Ac aK qo ((qd, .inl (cy 6, 1, .inr (.inr (.inr (.inl fd))))) :: wF Am (mE cy Am) mLs [] τ))) (u := (σ, fo)) (u' := (σ', fo)) (As := [.ref (Ac 0), .int (xs (i + (1 : Int32)).toNatClampNeg), .ref qo]) X (ZL_ok _ _ _ _ _) (w_sortBySecond_x1 hl hc) (vx_cwSW 3 X.1.2.2.2.2 gZ_law_L_sortBySecond rfl rfl rfl (by decide +kernel) ⟨Nat.le_of_ble_eq_true rfl, Nat.le_of_ble_eq_true rfl⟩) rfl rfl (Nat.le_of_ble_eq_true rfl) ⟨Nat.le_trans (Nat.add_le_add_left (by decide : 1 ≤ 4) k) hk, Nat.le_trans (Nat.add_le_add_left (by decide : 6 ≤ 24) n) hn⟩ dL_law_728 (k' := (k + 1)) (n' := (n + 6)) (Nat.le_refl _) (Nat.le_refl _) rfl rfl ?_
      exact tail 1 _ h0 (fun z => absurd z (by decide))
    | j + 1, hE, _ => exact nomatch hE
set_option maxHeartbeats 8000000 in
set_option maxRecDepth 100000 in
theorem law_c11 (X : gC (ZL aK aO aS aV aT) p s m args meth c D (cyT cy) A0 cL_law wzL_law RL 9 ret) (hl : l.stackTraces = false) (hX : va_X b L xs s s.heap) (hbl : b < s.heap.size) (hbA : ¬ A0 b) (h1 : vp_in (i + (1 : Int32)) L) (h2 : vp_in (i + (2 : Int32)) L) (h3 : vp_in (i + (3 : Int32)) L) (h4 : vp_in (i + (4 : Int32)) L) (hk : k + 4 ≤ room_1.cells) (hn : n + 24 ≤ room_1.slots) (h : REL a σ τ)
    (kk : ∀ (σ' τ' : St) (a' : AS) (fo' : Nat → Int64) (fd' : Nat → UInt64), REL a' σ' τ' → gG p l e room_1 s m args below meth c D (cyT cy) A0 9 Q (LW cy Ac aK Am qo qd σ' τ' fo' fd') (k + 4) (n + 24) 2302 [(0, .ref b), (1, .ref (Ac 0)), (2, .ref (Am 0)), (3, .ref qo), (4, .ref qd), (5, .int i)] []) : gG p l e room_1 s m args below meth c D (cyT cy) A0 9 Q (LW cy Ac aK Am qo qd σ τ fo fd) k n 776 [(0, .ref b), (1, .ref (Ac 0)), (2, .ref (Am 0)), (3, .ref qo), (4, .ref qd), (5, .int i)] [] := by
  obtain ⟨r, σ', v, τ', a', hc, hm, hR, ho⟩ := P_sortByBoth h ((xs (i + (1 : Int32)).toNatClampNeg))
  refine g_aload_n X dL_law_776 rfl 1 rfl ?_
  refine g_aload_n X dL_law_777 rfl 0 rfl ?_
  refine g_iload X dL_law_778 5 rfl ?_
  refine g_iconst X dL_law_780 (v := (1 : Int32)) (by decide) ?_
  refine g_iadd X dL_law_781 ?_
  refine g_scld X hX hbl hbA h1 dL_law_782 ?_
  refine g_aload_n X dL_law_783 rfl 3 rfl ?_
  have tail : ∀ (kq : Int32) (f9 : Nat → Int64), gi τ' 10 = kq → (kq = 0 → f9 0 = v.toInt64) → gG p l e room_1 s m args below meth c D (cyT cy) A0 9 Q (LW cy Ac aK Am qo qd σ' τ f9 fd) (k + 1) (n + 6) 787 [(0, .ref b), (1, .ref (Ac 0)), (2, .ref (Am 0)), (3, .ref qo), (4, .ref qd), (5, .int i)] [.int kq] := by
    intro kq f9 hq hf
    have fin : gG p l e room_1 s m args below meth c D (cyT cy) A0 9 Q (LW cy Ac aK Am qo qd σ' τ' f9 fd) (k + 1) (n + 6) 829 [(7, .int v), (6, .int kq), (0, .ref b), (1, .ref (Ac 0)), (2, .ref (Am 0)), (3, .ref qo), (4, .ref qd), (5, .int i)] [] := g_goto X (tgt := 2302) dL_law_829 (by decide) (g_sub [2, 3, 4, 5, 6, 7] rfl (g_wid (Nat.add_le_add_left (by decide) k) (Nat.add_le_add_left (by decide) n) (kk _ _ _ _ _ hR)))
    refine g_istore X dL_law_787 (by decide) (lv' := [(6, .int kq), (0, .ref b), (1, .ref (Ac 0)), (2, .ref (Am 0)), (3, .ref qo), (4, .ref qd), (5, .int i)]) rfl ?_
    refine g_aload_n X dL_law_789 rfl 3 rfl ?_
    refine g_aload_n X dL_law_790 rfl 1 rfl ?_
    refine g_iload X dL_law_791 6 rfl ?_
    refine g_iconst X dL_law_793 (v := (1 : Int32)) (by decide) ?_
    refine g_iadd X dL_law_794 ?_
    refine g_scld X hX hbl hbA h1 dL_law_795 ?_
    refine g_perm (LW_perm cy Ac aK Am qo qd σ' τ f9 fd) ?_
    refine g_callVI (AD := Am) (E := mE cy Am) (L := mLs) (As := [.int (xs (i + (1 : Int32)).toNatClampNeg)]) X (ZL_ok _ _ _ _ _) (mI_up (m_X11_sortByBoth hm)) (cwV 1 X.1.2.2.2.2 gZ_law_X11_sortByBoth rfl rfl rfl (by decide +kernel) ⟨Nat.le_of_ble_eq_true rfl, Nat.le_of_ble_eq_true rfl⟩) rfl mm0 (mE_0 cy Am τ) rfl rfl (Nat.le_of_ble_eq_true rfl) ⟨Nat.le_trans (Nat.add_le_add_left (by decide : 1 ≤ 4) k) hk, Nat.le_trans (Nat.add_le_add_left (by decide : 6 ≤ 24) n) hn⟩ dL_law_796 ?_
    refine g_perm (LW_perm cy Ac aK Am qo qd σ' τ' f9 fd).symm ?_
    refine g_istore X dL_law_799 (by decide) (lv' := [(7, .int v), (6, .int kq), (0, .ref b), (1, .ref (Ac 0)), (2, .ref (Am 0)), (3, .ref qo), (4, .ref qd), (5, .int i)]) rfl ?_
    refine g_aload_n X dL_law_801 rfl 4 rfl ?_
    refine g_perm (LW_perm cy Ac aK Am qo qd σ' τ' f9 fd) ?_
    refine g_callVI (AD := Am) (E := mE cy Am) (L := mLs) (As := []) X (ZL_ok _ _ _ _ _) (mI_up (m_X11_thrown (σ := τ') (r := gi τ' 10) rfl)) (cwV 0 X.1.2.2.2.2 gZ_law_X11_thrown rfl rfl rfl (by decide +kernel) ⟨Nat.le_of_ble_eq_true rfl, Nat.le_of_ble_eq_true rfl⟩) rfl mm0 (mE_0 cy Am τ') rfl rfl (Nat.le_of_ble_eq_true rfl) ⟨Nat.le_trans (Nat.add_le_add_left (by decide : 1 ≤ 4) k) hk, Nat.le_trans (Nat.add_le_add_left (by decide : 6 ≤ 24) n) hn⟩ dL_law_802 ?_
    refine g_perm (LW_perm cy Ac aK Am qo qd σ' τ' f9 fd).symm ?_
    refine g_iload X dL_law_805 1 rfl ?_
    refine g_icmp_eq X (tgt := 812) dL_law_807 (by decide) (fun _ => ?_) (fun z => absurd hq z)
    refine g_iload X dL_law_812 1 rfl ?_
    refine g_if_ne X (tgt := 829) dL_law_814 (by decide) (fun _ => fin) (fun z => ?_)
    refine g_aload_n X dL_law_817 rfl 5 rfl ?_
    refine g_iconst X dL_law_818 (v := (0 : Int32)) (by decide) ?_
    refine g_lald X 85 5 (cW_85 _ _ _ _ _) rfl (vp_in_nI (n := 0) (N := 1) (by decide) (by decide)) dL_law_819 ?_
    have hf := hf z
    refine g_iload X dL_law_820 0 rfl ?_
    refine g_i2l X dL_law_822 ?_
    refine g_lcmp X dL_law_823 ?_
    refine g_if_eq X (tgt := 829) dL_law_824 (by decide) (fun _ => fin) (fun z2 => absurd (show lg_cmp (f9 0) (v.toInt64) = 0 by rw [show f9 0 = v.toInt64 from hf]; exact cmp_self _) z2)
  rcases ho with ⟨x, rfl, rfl, h0⟩ | ⟨j, E9, rfl, hE, h0⟩
  · refine g_lawS (Wf := (oL cy Ac aK qo ((qd, .inl (cy 6, 1, .inr (.inr (.inr (.inl fd))))) :: wF Am (mE cy Am) mLs [] τ))) (u := (σ, fo)) (u' := (σ', (vp_updL fo 0 v.toInt64))) (As := [.ref (Ac 0), .int (xs (i + (1 : Int32)).toNatClampNeg), .ref qo]) X (ZL_ok _ _ _ _ _) (w_sortByBoth_ok hl hc) (vx_cwSW 3 X.1.2.2.2.2 gZ_law_L_sortByBoth rfl rfl rfl (by decide +kernel) ⟨Nat.le_of_ble_eq_true rfl, Nat.le_of_ble_eq_true rfl⟩) rfl rfl (Nat.le_of_ble_eq_true rfl) ⟨Nat.le_trans (Nat.add_le_add_left (by decide : 1 ≤ 4) k) hk, Nat.le_trans (Nat.add_le_add_left (by decide : 6 ≤ 24) n) hn⟩ dL_law_784 (k' := (k + 1)) (n' := (n + 6)) (Nat.le_refl _) (Nat.le_refl _) rfl rfl ?_
    exact tail 0 _ h0 (fun _ => rfl)
  · match j, hE, h0 with
    | 0, hE, h0 =>
      cases hE
      refine g_lawS (Wf := (oL cy Ac aK qo ((qd, .inl (cy 6, 1, .inr (.inr (.inr (.inl fd))))) :: wF Am (mE cy Am) mLs [] τ))) (u := (σ, fo)) (u' := (σ', fo)) (As := [.ref (Ac 0), .int (xs (i + (1 : Int32)).toNatClampNeg), .ref qo]) X (ZL_ok _ _ _ _ _) (w_sortByBoth_x1 hl hc) (vx_cwSW 3 X.1.2.2.2.2 gZ_law_L_sortByBoth rfl rfl rfl (by decide +kernel) ⟨Nat.le_of_ble_eq_true rfl, Nat.le_of_ble_eq_true rfl⟩) rfl rfl (Nat.le_of_ble_eq_true rfl) ⟨Nat.le_trans (Nat.add_le_add_left (by decide : 1 ≤ 4) k) hk, Nat.le_trans (Nat.add_le_add_left (by decide : 6 ≤ 24) n) hn⟩ dL_law_784 (k' := (k + 1)) (n' := (n + 6)) (Nat.le_refl _) (Nat.le_refl _) rfl rfl ?_
      exact tail 1 _ h0 (fun z => absurd z (by decide))
    | j + 1, hE, _ => exact nomatch hE
set_option maxHeartbeats 8000000 in
set_option maxRecDepth 100000 in
theorem law_c12 (X : gC (ZL aK aO aS aV aT) p s m args meth c D (cyT cy) A0 cL_law wzL_law RL 9 ret) (hl : l.stackTraces = false) (hX : va_X b L xs s s.heap) (hbl : b < s.heap.size) (hbA : ¬ A0 b) (h1 : vp_in (i + (1 : Int32)) L) (h2 : vp_in (i + (2 : Int32)) L) (h3 : vp_in (i + (3 : Int32)) L) (h4 : vp_in (i + (4 : Int32)) L) (hk : k + 4 ≤ room_1.cells) (hn : n + 24 ≤ room_1.slots) (h : REL a σ τ)
    (kk : ∀ (σ' τ' : St) (a' : AS) (fo' : Nat → Int64) (fd' : Nat → UInt64), REL a' σ' τ' → gG p l e room_1 s m args below meth c D (cyT cy) A0 9 Q (LW cy Ac aK Am qo qd σ' τ' fo' fd') (k + 4) (n + 24) 2302 [(0, .ref b), (1, .ref (Ac 0)), (2, .ref (Am 0)), (3, .ref qo), (4, .ref qd), (5, .int i)] []) : gG p l e room_1 s m args below meth c D (cyT cy) A0 9 Q (LW cy Ac aK Am qo qd σ τ fo fd) k n 832 [(0, .ref b), (1, .ref (Ac 0)), (2, .ref (Am 0)), (3, .ref qo), (4, .ref qd), (5, .int i)] [] := by
  obtain ⟨r, σ', v, τ', a', hc, hm, hR, ho⟩ := P_pour h ((xs (i + (1 : Int32)).toNatClampNeg)) ((xs (i + (2 : Int32)).toNatClampNeg))
  refine g_aload_n X dL_law_832 rfl 1 rfl ?_
  refine g_aload_n X dL_law_833 rfl 0 rfl ?_
  refine g_iload X dL_law_834 5 rfl ?_
  refine g_iconst X dL_law_836 (v := (1 : Int32)) (by decide) ?_
  refine g_iadd X dL_law_837 ?_
  refine g_scld X hX hbl hbA h1 dL_law_838 ?_
  refine g_aload_n X dL_law_839 rfl 0 rfl ?_
  refine g_iload X dL_law_840 5 rfl ?_
  refine g_iconst X dL_law_842 (v := (2 : Int32)) (by decide) ?_
  refine g_iadd X dL_law_843 ?_
  refine g_scld X hX hbl hbA h2 dL_law_844 ?_
  refine g_aload_n X dL_law_845 rfl 3 rfl ?_
  have tail : ∀ (kq : Int32) (f9 : Nat → Int64), gi τ' 10 = kq → (kq = 0 → f9 0 = v.toInt64) → gG p l e room_1 s m args below meth c D (cyT cy) A0 9 Q (LW cy Ac aK Am qo qd σ' τ f9 fd) (k + 4) (n + 24) 849 [(0, .ref b), (1, .ref (Ac 0)), (2, .ref (Am 0)), (3, .ref qo), (4, .ref qd), (5, .int i)] [.int kq] := by
    intro kq f9 hq hf
    have fin : gG p l e room_1 s m args below meth c D (cyT cy) A0 9 Q (LW cy Ac aK Am qo qd σ' τ' f9 fd) (k + 4) (n + 24) 897 [(7, .int v), (6, .int kq), (0, .ref b), (1, .ref (Ac 0)), (2, .ref (Am 0)), (3, .ref qo), (4, .ref qd), (5, .int i)] [] := g_goto X (tgt := 2302) dL_law_897 (by decide) (g_sub [2, 3, 4, 5, 6, 7] rfl (g_wid (Nat.add_le_add_left (by decide) k) (Nat.add_le_add_left (by decide) n) (kk _ _ _ _ _ hR)))
    refine g_istore X dL_law_849 (by decide) (lv' := [(6, .int kq), (0, .ref b), (1, .ref (Ac 0)), (2, .ref (Am 0)), (3, .ref qo), (4, .ref qd), (5, .int i)]) rfl ?_
    refine g_aload_n X dL_law_851 rfl 3 rfl ?_
    refine g_aload_n X dL_law_852 rfl 1 rfl ?_
    refine g_iload X dL_law_853 6 rfl ?_
    refine g_iconst X dL_law_855 (v := (1 : Int32)) (by decide) ?_
    refine g_iadd X dL_law_856 ?_
    refine g_scld X hX hbl hbA h1 dL_law_857 ?_
    refine g_aload_n X dL_law_858 rfl 1 rfl ?_
    refine g_iload X dL_law_859 6 rfl ?_
    refine g_iconst X dL_law_861 (v := (2 : Int32)) (by decide) ?_
    refine g_iadd X dL_law_862 ?_
    refine g_scld X hX hbl hbA h2 dL_law_863 ?_
    refine g_perm (LW_perm cy Ac aK Am qo qd σ' τ f9 fd) ?_
    refine g_callVI (AD := Am) (E := mE cy Am) (L := mLs) (As := [.int (xs (i + (1 : Int32)).toNatClampNeg), .int (xs (i + (2 : Int32)).toNatClampNeg)]) X (ZL_ok _ _ _ _ _) (mI_up (m_X11_pour hm)) (cwV 2 X.1.2.2.2.2 gZ_law_X11_pour rfl rfl rfl (by decide +kernel) ⟨Nat.le_of_ble_eq_true rfl, Nat.le_of_ble_eq_true rfl⟩) rfl mm0 (mE_0 cy Am τ) rfl rfl (Nat.le_of_ble_eq_true rfl) ⟨Nat.le_trans (Nat.add_le_add_left (by decide : 4 ≤ 4) k) hk, Nat.le_trans (Nat.add_le_add_left (by decide : 24 ≤ 24) n) hn⟩ dL_law_864 ?_
    refine g_perm (LW_perm cy Ac aK Am qo qd σ' τ' f9 fd).symm ?_
    refine g_istore X dL_law_867 (by decide) (lv' := [(7, .int v), (6, .int kq), (0, .ref b), (1, .ref (Ac 0)), (2, .ref (Am 0)), (3, .ref qo), (4, .ref qd), (5, .int i)]) rfl ?_
    refine g_aload_n X dL_law_869 rfl 4 rfl ?_
    refine g_perm (LW_perm cy Ac aK Am qo qd σ' τ' f9 fd) ?_
    refine g_callVI (AD := Am) (E := mE cy Am) (L := mLs) (As := []) X (ZL_ok _ _ _ _ _) (mI_up (m_X11_thrown (σ := τ') (r := gi τ' 10) rfl)) (cwV 0 X.1.2.2.2.2 gZ_law_X11_thrown rfl rfl rfl (by decide +kernel) ⟨Nat.le_of_ble_eq_true rfl, Nat.le_of_ble_eq_true rfl⟩) rfl mm0 (mE_0 cy Am τ') rfl rfl (Nat.le_of_ble_eq_true rfl) ⟨Nat.le_trans (Nat.add_le_add_left (by decide : 4 ≤ 4) k) hk, Nat.le_trans (Nat.add_le_add_left (by decide : 24 ≤ 24) n) hn⟩ dL_law_870 ?_
    refine g_perm (LW_perm cy Ac aK Am qo qd σ' τ' f9 fd).symm ?_
    refine g_iload X dL_law_873 1 rfl ?_
    refine g_icmp_eq X (tgt := 880) dL_law_875 (by decide) (fun _ => ?_) (fun z => absurd hq z)
    refine g_iload X dL_law_880 1 rfl ?_
    refine g_if_ne X (tgt := 897) dL_law_882 (by decide) (fun _ => fin) (fun z => ?_)
    refine g_aload_n X dL_law_885 rfl 5 rfl ?_
    refine g_iconst X dL_law_886 (v := (0 : Int32)) (by decide) ?_
    refine g_lald X 85 5 (cW_85 _ _ _ _ _) rfl (vp_in_nI (n := 0) (N := 1) (by decide) (by decide)) dL_law_887 ?_
    have hf := hf z
    refine g_iload X dL_law_888 0 rfl ?_
    refine g_i2l X dL_law_890 ?_
    refine g_lcmp X dL_law_891 ?_
    refine g_if_eq X (tgt := 897) dL_law_892 (by decide) (fun _ => fin) (fun z2 => absurd (show lg_cmp (f9 0) (v.toInt64) = 0 by rw [show f9 0 = v.toInt64 from hf]; exact cmp_self _) z2)
  rcases ho with ⟨x, rfl, rfl, h0⟩ | ⟨j, E9, rfl, hE, h0⟩
  · refine g_lawS (Wf := (oL cy Ac aK qo ((qd, .inl (cy 6, 1, .inr (.inr (.inr (.inl fd))))) :: wF Am (mE cy Am) mLs [] τ))) (u := (σ, fo)) (u' := (σ', (vp_updL fo 0 v.toInt64))) (As := [.ref (Ac 0), .int (xs (i + (1 : Int32)).toNatClampNeg), .int (xs (i + (2 : Int32)).toNatClampNeg), .ref qo]) X (ZL_ok _ _ _ _ _) (w_pour_ok hl hc) (vx_cwSW 4 X.1.2.2.2.2 gZ_law_L_pour rfl rfl rfl (by decide +kernel) ⟨Nat.le_of_ble_eq_true rfl, Nat.le_of_ble_eq_true rfl⟩) rfl rfl (Nat.le_of_ble_eq_true rfl) ⟨Nat.le_trans (Nat.add_le_add_left (by decide : 4 ≤ 4) k) hk, Nat.le_trans (Nat.add_le_add_left (by decide : 24 ≤ 24) n) hn⟩ dL_law_846 (k' := (k + 4)) (n' := (n + 24)) (Nat.le_refl _) (Nat.le_refl _) rfl rfl ?_
    exact tail 0 _ h0 (fun _ => rfl)
  · match j, hE, h0 with
    | 0, hE, h0 =>
      cases hE
      refine g_lawS (Wf := (oL cy Ac aK qo ((qd, .inl (cy 6, 1, .inr (.inr (.inr (.inl fd))))) :: wF Am (mE cy Am) mLs [] τ))) (u := (σ, fo)) (u' := (σ', fo)) (As := [.ref (Ac 0), .int (xs (i + (1 : Int32)).toNatClampNeg), .int (xs (i + (2 : Int32)).toNatClampNeg), .ref qo]) X (ZL_ok _ _ _ _ _) (w_pour_x1 hl hc) (vx_cwSW 4 X.1.2.2.2.2 gZ_law_L_pour rfl rfl rfl (by decide +kernel) ⟨Nat.le_of_ble_eq_true rfl, Nat.le_of_ble_eq_true rfl⟩) rfl rfl (Nat.le_of_ble_eq_true rfl) ⟨Nat.le_trans (Nat.add_le_add_left (by decide : 4 ≤ 4) k) hk, Nat.le_trans (Nat.add_le_add_left (by decide : 24 ≤ 24) n) hn⟩ dL_law_846 (k' := (k + 4)) (n' := (n + 24)) (Nat.le_refl _) (Nat.le_refl _) rfl rfl ?_
      exact tail 1 _ h0 (fun z => absurd z (by decide))
    | 1, hE, h0 =>
      cases hE
      refine g_lawS (Wf := (oL cy Ac aK qo ((qd, .inl (cy 6, 1, .inr (.inr (.inr (.inl fd))))) :: wF Am (mE cy Am) mLs [] τ))) (u := (σ, fo)) (u' := (σ', fo)) (As := [.ref (Ac 0), .int (xs (i + (1 : Int32)).toNatClampNeg), .int (xs (i + (2 : Int32)).toNatClampNeg), .ref qo]) X (ZL_ok _ _ _ _ _) (w_pour_x2 hl hc) (vx_cwSW 4 X.1.2.2.2.2 gZ_law_L_pour rfl rfl rfl (by decide +kernel) ⟨Nat.le_of_ble_eq_true rfl, Nat.le_of_ble_eq_true rfl⟩) rfl rfl (Nat.le_of_ble_eq_true rfl) ⟨Nat.le_trans (Nat.add_le_add_left (by decide : 4 ≤ 4) k) hk, Nat.le_trans (Nat.add_le_add_left (by decide : 24 ≤ 24) n) hn⟩ dL_law_846 (k' := (k + 4)) (n' := (n + 24)) (Nat.le_refl _) (Nat.le_refl _) rfl rfl ?_
      exact tail 2 _ h0 (fun z => absurd z (by decide))
    | 2, hE, h0 =>
      cases hE
      refine g_lawS (Wf := (oL cy Ac aK qo ((qd, .inl (cy 6, 1, .inr (.inr (.inr (.inl fd))))) :: wF Am (mE cy Am) mLs [] τ))) (u := (σ, fo)) (u' := (σ', fo)) (As := [.ref (Ac 0), .int (xs (i + (1 : Int32)).toNatClampNeg), .int (xs (i + (2 : Int32)).toNatClampNeg), .ref qo]) X (ZL_ok _ _ _ _ _) (w_pour_x3 hl hc) (vx_cwSW 4 X.1.2.2.2.2 gZ_law_L_pour rfl rfl rfl (by decide +kernel) ⟨Nat.le_of_ble_eq_true rfl, Nat.le_of_ble_eq_true rfl⟩) rfl rfl (Nat.le_of_ble_eq_true rfl) ⟨Nat.le_trans (Nat.add_le_add_left (by decide : 4 ≤ 4) k) hk, Nat.le_trans (Nat.add_le_add_left (by decide : 24 ≤ 24) n) hn⟩ dL_law_846 (k' := (k + 4)) (n' := (n + 24)) (Nat.le_refl _) (Nat.le_refl _) rfl rfl ?_
      exact tail 3 _ h0 (fun z => absurd z (by decide))
    | j + 3, hE, _ => exact nomatch hE
end LC
