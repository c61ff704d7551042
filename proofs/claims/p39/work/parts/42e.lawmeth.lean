section LV
variable {D : va_G} {cy : Nat → ClassId} {A aK aO aS aV aT bS bV dA B : Nat → Nat} {l : Launch} {X8 : va_W}
set_option maxHeartbeats 16000000 in
set_option maxRecDepth 100000 in
theorem m_L_moves {σ ρ : St} {a2 : Int32} {a3 : Int32} {a4 : Nat} {a5 : Nat} {a6 : Nat} {r : Int32} {σ' : St} {ρ' : St} (h4 : a4 < 3) (h5 : a5 < 3) (h6 : a6 < 3) (hl : l.stackTraces = false) (h : f_L_moves a2 a3 a4 a5 a6 σ ρ = some (r, σ', ρ')) : wI (ZL aK aO aS aV aT bS bV dA) D (cyT cy) l yL_moves wzL_moves rmL_moves (lWf cy A aK B X8) [.ref (A 0), .ref (B 0), .int a2, .int a3, .ref (B (1 + a4)), .ref (B (1 + a5)), .ref (B (1 + a6))] (σ, ρ) r (σ', ρ') 1 6 := by
  unfold f_L_moves at h
  refine wI_of (cc := cL_moves) (maxL := 14) (ret := (some .boolean)) (by decide) rfl (Nat.le_of_ble_eq_true rfl) (fun p e s m args below meth c B9 X => ?_)
  have K0 : gG p l e rmL_moves s m args below meth c D (cyT cy) B9 14 (lIe (lWf cy A aK B X8) D (cyT cy) B9 below args s r (σ', ρ') 1 6) (lW cy A aK B X8 σ ρ) 0 0 0 [(0, .ref (A 0)), (1, .ref (B 0)), (2, .int a2), (3, .int a3), (4, .ref (B (1 + a4))), (5, .ref (B (1 + a5))), (6, .ref (B (1 + a6)))] [] := by
    refine g_aload_n X dL_moves_0 rfl 0 rfl ?_
    refine g_iload_n X dL_moves_1 rfl 2 rfl ?_
    refine g_aload X dL_moves_2 4 rfl ?_
    obtain ⟨r_2, ρ_3, hf_1, h⟩ := bnd2_some h
    refine h_callI (As := [.ref (A 0), .int a2, .ref (B (1 + a4))]) (Wf := lWf cy A aK B X8) (ws9 := (lW cy A aK B X8 σ ρ_3)) X (ZL_ok _ _ _ _ _ _ _ _) (m_L_sees h4 hl hf_1) (va_cwS 3 X.1.2.2.2.2 gZL_moves_L_sees rfl rfl rfl (by decide +kernel) ⟨Nat.le_of_ble_eq_true rfl, Nat.le_of_ble_eq_true rfl⟩) rfl rfl (Nat.le_of_ble_eq_true rfl) ⟨by decide, by decide⟩ dL_moves_4 rfl rfl (k' := 0) (n' := 0) (by decide) (by decide) ?_
    refine g_istore X dL_moves_7 (by decide) (lv' := [(7, .int r_2), (0, .ref (A 0)), (1, .ref (B 0)), (2, .int a2), (3, .int a3), (4, .ref (B (1 + a4))), (5, .ref (B (1 + a5))), (6, .ref (B (1 + a6)))]) rfl ?_
    refine g_iload_n X dL_moves_9 rfl 3 rfl ?_
    refine g_iconst X dL_moves_10 (v := (1 : Int32)) (by decide) ?_
    refine g_iadd X dL_moves_11 ?_
    refine g_aload_n X dL_moves_12 rfl 2 rfl ?_
    obtain ⟨r_5, ρ_6, hf_4, h⟩ := bnd2_some h
    refine h_callI (As := [.ref (B 0)]) (Wf := lWf cy A aK B X8) (ws9 := (lW cy A aK B X8 σ ρ_6)) X (ZL_ok _ _ _ _ _ _ _ _) (m_L_next hf_4) (va_cwS 1 X.1.2.2.2.2 gZL_moves_L_next rfl rfl rfl (by decide +kernel) ⟨Nat.le_of_ble_eq_true rfl, Nat.le_of_ble_eq_true rfl⟩) rfl rfl (Nat.le_of_ble_eq_true rfl) ⟨by decide, by decide⟩ dL_moves_13 rfl rfl (k' := 0) (n' := 0) (by decide) (by decide) ?_
    refine g_iconst X dL_moves_16 (v := (3 : Int32)) (by decide) ?_
    refine g_irem X dL_moves_17 (by decide) ?_
    refine g_iadd X dL_moves_18 ?_
    refine g_iconst X dL_moves_19 (v := (4 : Int32)) (by decide) ?_
    refine g_irem X dL_moves_20 (by decide) ?_
    refine g_istore X dL_moves_21 (by decide) (lv' := [(8, .int (((a2 + (1 : Int32)) + (r_5 - r_5 / (3 : Int32) * (3 : Int32))) - ((a2 + (1 : Int32)) + (r_5 - r_5 / (3 : Int32) * (3 : Int32))) / (4 : Int32) * (4 : Int32))), (7, .int r_2), (0, .ref (A 0)), (1, .ref (B 0)), (2, .int a2), (3, .int a3), (4, .ref (B (1 + a4))), (5, .ref (B (1 + a5))), (6, .ref (B (1 + a6)))]) rfl ?_
    refine g_aload_n X dL_moves_23 rfl 2 rfl ?_
    refine g_iload X dL_moves_24 0 rfl ?_
    refine g_aload X dL_moves_26 7 rfl ?_
    obtain ⟨r_8, ρ_9, hf_7, h⟩ := bnd2_some h
    refine h_callI (As := [.ref (A 0), .int (((a2 + (1 : Int32)) + (r_5 - r_5 / (3 : Int32) * (3 : Int32))) - ((a2 + (1 : Int32)) + (r_5 - r_5 / (3 : Int32) * (3 : Int32))) / (4 : Int32) * (4 : Int32)), .ref (B (1 + a5))]) (Wf := lWf cy A aK B X8) (ws9 := (lW cy A aK B X8 σ ρ_9)) X (ZL_ok _ _ _ _ _ _ _ _) (m_L_sees h5 hl hf_7) (va_cwS 3 X.1.2.2.2.2 gZL_moves_L_sees rfl rfl rfl (by decide +kernel) ⟨Nat.le_of_ble_eq_true rfl, Nat.le_of_ble_eq_true rfl⟩) rfl rfl (Nat.le_of_ble_eq_true rfl) ⟨by decide, by decide⟩ dL_moves_28 rfl rfl (k' := 0) (n' := 0) (by decide) (by decide) ?_
    refine g_istore X dL_moves_31 (by decide) (lv' := [(9, .int r_8), (8, .int (((a2 + (1 : Int32)) + (r_5 - r_5 / (3 : Int32) * (3 : Int32))) - ((a2 + (1 : Int32)) + (r_5 - r_5 / (3 : Int32) * (3 : Int32))) / (4 : Int32) * (4 : Int32))), (7, .int r_2), (0, .ref (A 0)), (1, .ref (B 0)), (2, .int a2), (3, .int a3), (4, .ref (B (1 + a4))), (5, .ref (B (1 + a5))), (6, .ref (B (1 + a6)))]) rfl ?_
    refine g_iload_n X dL_moves_33 rfl 6 rfl ?_
    refine g_bipush X dL_moves_34 (v := (6 : Int32)) (by decide) ?_
    refine g_icmp_ne X (tgt := 164) dL_moves_36 (by decide) (fun hc_10 => ?_) (fun hc_10 => ?_)
    · have h := iff_ hc_10 h
      refine g_iload_n X dL_moves_164 rfl 6 rfl ?_
      refine g_bipush X dL_moves_165 (v := (7 : Int32)) (by decide) ?_
      refine g_icmp_ne X (tgt := 367) dL_moves_167 (by decide) (fun hc_11 => ?_) (fun hc_11 => ?_)
      · have h := iff_ hc_11 h
        refine g_iload_n X dL_moves_367 rfl 6 rfl ?_
        refine g_bipush X dL_moves_368 (v := (8 : Int32)) (by decide) ?_
        refine g_icmp_ne X (tgt := 459) dL_moves_370 (by decide) (fun hc_12 => ?_) (fun hc_12 => ?_)
        · have h := iff_ hc_12 h
          refine g_iload_n X dL_moves_459 rfl 6 rfl ?_
          refine g_bipush X dL_moves_460 (v := (9 : Int32)) (by decide) ?_
          refine g_icmp_ne X (tgt := 657) dL_moves_462 (by decide) (fun hc_13 => ?_) (fun hc_13 => ?_)
          · have h := iff_ hc_13 h
            refine g_iconst X dL_moves_657 (v := (0 : Int32)) (by decide) ?_
            refine g_istore X dL_moves_658 (by decide) (lv' := [(10, .int (0 : Int32)), (9, .int r_8), (8, .int (((a2 + (1 : Int32)) + (r_5 - r_5 / (3 : Int32) * (3 : Int32))) - ((a2 + (1 : Int32)) + (r_5 - r_5 / (3 : Int32) * (3 : Int32))) / (4 : Int32) * (4 : Int32))), (7, .int r_2), (0, .ref (A 0)), (1, .ref (B 0)), (2, .int a2), (3, .int a3), (4, .ref (B (1 + a4))), (5, .ref (B (1 + a5))), (6, .ref (B (1 + a6)))]) rfl ?_
            refine g_aload_n X dL_moves_660 rfl 5 rfl ?_
            obtain ⟨r_15, ρ_16, hf_14, h⟩ := bnd2_some h
            refine h_callI (As := [.ref (B 0)]) (Wf := lWf cy A aK B X8) (ws9 := (lW cy A aK B X8 σ ρ_16)) X (ZL_ok _ _ _ _ _ _ _ _) (m_L_next hf_14) (va_cwS 1 X.1.2.2.2.2 gZL_moves_L_next rfl rfl rfl (by decide +kernel) ⟨Nat.le_of_ble_eq_true rfl, Nat.le_of_ble_eq_true rfl⟩) rfl rfl (Nat.le_of_ble_eq_true rfl) ⟨by decide, by decide⟩ dL_moves_661 rfl rfl (k' := 0) (n' := 0) (by decide) (by decide) ?_
            refine g_iconst X dL_moves_664 (v := (4 : Int32)) (by decide) ?_
            refine g_irem X dL_moves_665 (by decide) ?_
            refine g_istore X dL_moves_666 (by decide) (lv' := [(11, .int (r_15 - r_15 / (4 : Int32) * (4 : Int32))), (10, .int (0 : Int32)), (9, .int r_8), (8, .int (((a2 + (1 : Int32)) + (r_5 - r_5 / (3 : Int32) * (3 : Int32))) - ((a2 + (1 : Int32)) + (r_5 - r_5 / (3 : Int32) * (3 : Int32))) / (4 : Int32) * (4 : Int32))), (7, .int r_2), (0, .ref (A 0)), (1, .ref (B 0)), (2, .int a2), (3, .int a3), (4, .ref (B (1 + a4))), (5, .ref (B (1 + a5))), (6, .ref (B (1 + a6)))]) rfl ?_
            refine g_iconst X dL_moves_668 (v := (0 : Int32)) (by decide) ?_
            refine g_istore X dL_moves_669 (by decide) (lv' := [(12, .int (0 : Int32)), (11, .int (r_15 - r_15 / (4 : Int32) * (4 : Int32))), (10, .int (0 : Int32)), (9, .int r_8), (8, .int (((a2 + (1 : Int32)) + (r_5 - r_5 / (3 : Int32) * (3 : Int32))) - ((a2 + (1 : Int32)) + (r_5 - r_5 / (3 : Int32) * (3 : Int32))) / (4 : Int32) * (4 : Int32))), (7, .int r_2), (0, .ref (A 0)), (1, .ref (B 0)), (2, .int a2), (3, .int a3), (4, .ref (B (1 + a4))), (5, .ref (B (1 + a5))), (6, .ref (B (1 + a6)))]) rfl ?_
            have L_34 : ∀ (c_17 : Int32) (c_18 : Int32) (c_19 : Nat) (hp_20 : c_19 < 3) (c_21 : Nat) (hp_22 : c_21 < 3) (c_23 : Nat) (hp_24 : c_23 < 3) (c_25 : Int32) (c_27 : Int32) (σ_37 : St) (hz_38 : σ_37 = σ) (n_30 : Nat) (v_26 : Int32) (v_28 : Int32) (ρ_29 : St) (o_36 : Int32) (ρ_35 : St), f_L_moves_L671 c_18 c_19 c_21 c_25 c_27 n_30 v_26 v_28 ρ_29 = some (o_36, ρ_35) → gG p l e rmL_moves s m args below meth c D (cyT cy) B9 14 (lIe (lWf cy A aK B X8) D (cyT cy) B9 below args s r (σ', ρ') 1 6) (lW cy A aK B X8 σ_37 ρ_35) 0 0 746 [(0, .ref (A 0)), (2, .int c_17), (3, .int c_18), (5, .ref (B (1 + c_21))), (6, .ref (B (1 + c_23))), (7, .int c_25), (10, .int o_36), (11, .int c_27)] [] → gG p l e rmL_moves s m args below meth c D (cyT cy) B9 14 (lIe (lWf cy A aK B X8) D (cyT cy) B9 below args s r (σ', ρ') 1 6) (lW cy A aK B X8 σ_37 ρ_29) 0 0 671 [(0, .ref (A 0)), (2, .int c_17), (3, .int c_18), (4, .ref (B (1 + c_19))), (5, .ref (B (1 + c_21))), (6, .ref (B (1 + c_23))), (7, .int c_25), (10, .int v_26), (11, .int c_27), (12, .int v_28)] [] := by
              intro c_17 c_18 c_19 hp_20 c_21 hp_22 c_23 hp_24 c_25 c_27 σ_37 hz_38 n_30
              induction n_30 with
              | zero =>
                intro v_26 v_28 ρ_29 o_36 ρ_35 h K_32
                rw [f_L_moves_L671] at h
                cases h
              | succ n_30 ih_31 =>
                intro v_26 v_28 ρ_29 o_36 ρ_35 h K_32
                rw [f_L_moves_L671] at h
                refine g_iload X dL_moves_671 9 rfl ?_
                refine g_iload X dL_moves_673 6 rfl ?_
                refine g_icmp_ge X (tgt := 746) dL_moves_675 (by decide) (fun hc_39 => ?_) (fun hc_39 => ?_)
                · have h := ift hc_39 h
                  cases h
                  exact g_sub [0, 1, 2, 4, 5, 6, 7, 8] rfl K_32
                · have h := iff_ hc_39 h
                  refine g_iload_n X dL_moves_678 rfl 2 rfl ?_
                  refine g_bipush X dL_moves_679 (v := (10 : Int32)) (by decide) ?_
                  obtain ⟨v_41, ρ_42, hj_56, h⟩ := bnd2_some h
                  have K_43 : gG p l e rmL_moves s m args below meth c D (cyT cy) B9 14 (lIe (lWf cy A aK B X8) D (cyT cy) B9 below args s r (σ', ρ') 1 6) (lW cy A aK B X8 σ_37 ρ_42) 0 0 740 [(0, .ref (A 0)), (2, .int c_17), (3, .int c_18), (4, .ref (B (1 + c_19))), (5, .ref (B (1 + c_21))), (6, .ref (B (1 + c_23))), (7, .int c_25), (10, .int v_41), (11, .int c_27), (12, .int v_28)] [] := by
                    refine g_iinc X dL_moves_740 9 rfl (v := v_28 + (1 : Int32)) rfl (by decide) (lv' := [(12, .int (v_28 + (1 : Int32))), (0, .ref (A 0)), (2, .int c_17), (3, .int c_18), (4, .ref (B (1 + c_19))), (5, .ref (B (1 + c_21))), (6, .ref (B (1 + c_23))), (7, .int c_25), (10, .int v_41), (11, .int c_27)]) rfl ?_
                    refine g_goto X (tgt := 671) dL_moves_743 (by decide) ?_
                    exact g_sub [1, 2, 3, 4, 5, 6, 7, 8, 9, 0] rfl (ih_31 _ _ _ _ _ h K_32)
                  have h := hj_56
                  clear hj_56
                  refine g_icmp_ne X (tgt := 699) dL_moves_681 (by decide) (fun hc_40 => ?_) (fun hc_40 => ?_)
                  · have h := iff_ hc_40 h
                    refine g_iload X dL_moves_699 9 rfl ?_
                    refine g_if_le X (tgt := 726) dL_moves_701 (by decide) (fun hc_44 => ?_) (fun hc_44 => ?_)
                    · have h := ift hc_44 h
                      refine g_aload X dL_moves_726 3 rfl ?_
                      refine g_iload X dL_moves_728 9 rfl ?_
                      refine g_aload X dL_moves_730 4 rfl ?_
                      refine g_iload X dL_moves_732 7 rfl ?_
                      obtain ⟨ρ_46, hf_45, h⟩ := bnd_some h
                      refine h_callV (As := [.ref (B (1 + c_19)), .int v_28, .ref (B (1 + c_21)), .int v_26]) (Wf := lWf cy A aK B X8) (ws9 := (lW cy A aK B X8 σ_37 ρ_46)) X (ZL_ok _ _ _ _ _ _ _ _) (m_L_copies hp_20 hp_22 hf_45) (va_cwS 4 X.1.2.2.2.2 gZL_moves_L_copies rfl rfl rfl (by decide +kernel) ⟨Nat.le_of_ble_eq_true rfl, Nat.le_of_ble_eq_true rfl⟩) rfl rfl (Nat.le_of_ble_eq_true rfl) ⟨by decide, by decide⟩ dL_moves_734 rfl rfl (k' := 0) (n' := 0) (by decide) (by decide) ?_
                      refine g_iinc X dL_moves_737 7 rfl (v := v_26 + (1 : Int32)) rfl (by decide) (lv' := [(10, .int (v_26 + (1 : Int32))), (0, .ref (A 0)), (2, .int c_17), (3, .int c_18), (4, .ref (B (1 + c_19))), (5, .ref (B (1 + c_21))), (6, .ref (B (1 + c_23))), (7, .int c_25), (11, .int c_27), (12, .int v_28)]) rfl ?_
                      cases h
                      exact g_sub [1, 2, 3, 4, 5, 6, 7, 0, 8, 9] rfl K_43
                    · have h := iff_ hc_44 h
                      refine g_aload X dL_moves_704 3 rfl ?_
                      refine g_iconst X dL_moves_706 (v := (0 : Int32)) (by decide) ?_
                      refine h_aald X hp_20 (k9 := 0) (by decide) (by decide) (by decide) dL_moves_707 ?_
                      refine g_iload X dL_moves_708 9 rfl ?_
                      obtain ⟨hg_47, h⟩ := grd_some h
                      refine h_gld X (isGr.mk hp_20 (k9 := 0) (by decide)) (k9 := v_28.toNatClampNeg) hg_47 rfl dL_moves_710 ?_
                      refine g_aload X dL_moves_711 3 rfl ?_
                      refine g_iconst X dL_moves_713 (v := (0 : Int32)) (by decide) ?_
                      refine h_aald X hp_20 (k9 := 0) (by decide) (by decide) (by decide) dL_moves_714 ?_
                      refine g_iload X dL_moves_715 9 rfl ?_
                      refine g_iconst X dL_moves_717 (v := (1 : Int32)) (by decide) ?_
                      refine g_isub X dL_moves_718 ?_
                      obtain ⟨hg_48, h⟩ := grd_some h
                      refine h_gld X (isGr.mk hp_20 (k9 := 0) (by decide)) (k9 := (v_28 - (1 : Int32)).toNatClampNeg) hg_48 rfl dL_moves_719 ?_
                      refine g_icmp_ne X (tgt := 726) dL_moves_720 (by decide) (fun hc_49 => ?_) (fun hc_49 => ?_)
                      · have h := iff_ hc_49 h
                        refine g_aload X dL_moves_726 3 rfl ?_
                        refine g_iload X dL_moves_728 9 rfl ?_
                        refine g_aload X dL_moves_730 4 rfl ?_
                        refine g_iload X dL_moves_732 7 rfl ?_
                        obtain ⟨ρ_51, hf_50, h⟩ := bnd_some h
                        refine h_callV (As := [.ref (B (1 + c_19)), .int v_28, .ref (B (1 + c_21)), .int v_26]) (Wf := lWf cy A aK B X8) (ws9 := (lW cy A aK B X8 σ_37 ρ_51)) X (ZL_ok _ _ _ _ _ _ _ _) (m_L_copies hp_20 hp_22 hf_50) (va_cwS 4 X.1.2.2.2.2 gZL_moves_L_copies rfl rfl rfl (by decide +kernel) ⟨Nat.le_of_ble_eq_true rfl, Nat.le_of_ble_eq_true rfl⟩) rfl rfl (Nat.le_of_ble_eq_true rfl) ⟨by decide, by decide⟩ dL_moves_734 rfl rfl (k' := 0) (n' := 0) (by decide) (by decide) ?_
                        refine g_iinc X dL_moves_737 7 rfl (v := v_26 + (1 : Int32)) rfl (by decide) (lv' := [(10, .int (v_26 + (1 : Int32))), (0, .ref (A 0)), (2, .int c_17), (3, .int c_18), (4, .ref (B (1 + c_19))), (5, .ref (B (1 + c_21))), (6, .ref (B (1 + c_23))), (7, .int c_25), (11, .int c_27), (12, .int v_28)]) rfl ?_
                        cases h
                        exact g_sub [1, 2, 3, 4, 5, 6, 7, 0, 8, 9] rfl K_43
                      · have h := ift hc_49 h
                        refine g_goto X (tgt := 740) dL_moves_723 (by decide) ?_
                        cases h
                        exact g_sub [0, 1, 2, 3, 4, 5, 6, 7, 8, 9] rfl K_43
                  · have h := ift hc_40 h
                    refine g_aload X dL_moves_684 3 rfl ?_
                    refine g_iconst X dL_moves_686 (v := (1 : Int32)) (by decide) ?_
                    refine h_aald X hp_20 (k9 := 1) (by decide) (by decide) (by decide) dL_moves_687 ?_
                    refine g_iload X dL_moves_688 9 rfl ?_
                    obtain ⟨hg_52, h⟩ := grd_some h
                    refine h_gld X (isGr.mk hp_20 (k9 := 1) (by decide)) (k9 := v_28.toNatClampNeg) hg_52 rfl dL_moves_690 ?_
                    refine g_iload X dL_moves_691 8 rfl ?_
                    refine g_icmp_ne X (tgt := 726) dL_moves_693 (by decide) (fun hc_53 => ?_) (fun hc_53 => ?_)
                    · have h := iff_ hc_53 h
                      refine g_aload X dL_moves_726 3 rfl ?_
                      refine g_iload X dL_moves_728 9 rfl ?_
                      refine g_aload X dL_moves_730 4 rfl ?_
                      refine g_iload X dL_moves_732 7 rfl ?_
                      obtain ⟨ρ_55, hf_54, h⟩ := bnd_some h
                      refine h_callV (As := [.ref (B (1 + c_19)), .int v_28, .ref (B (1 + c_21)), .int v_26]) (Wf := lWf cy A aK B X8) (ws9 := (lW cy A aK B X8 σ_37 ρ_55)) X (ZL_ok _ _ _ _ _ _ _ _) (m_L_copies hp_20 hp_22 hf_54) (va_cwS 4 X.1.2.2.2.2 gZL_moves_L_copies rfl rfl rfl (by decide +kernel) ⟨Nat.le_of_ble_eq_true rfl, Nat.le_of_ble_eq_true rfl⟩) rfl rfl (Nat.le_of_ble_eq_true rfl) ⟨by decide, by decide⟩ dL_moves_734 rfl rfl (k' := 0) (n' := 0) (by decide) (by decide) ?_
                      refine g_iinc X dL_moves_737 7 rfl (v := v_26 + (1 : Int32)) rfl (by decide) (lv' := [(10, .int (v_26 + (1 : Int32))), (0, .ref (A 0)), (2, .int c_17), (3, .int c_18), (4, .ref (B (1 + c_19))), (5, .ref (B (1 + c_21))), (6, .ref (B (1 + c_23))), (7, .int c_25), (11, .int c_27), (12, .int v_28)]) rfl ?_
                      cases h
                      exact g_sub [1, 2, 3, 4, 5, 6, 7, 0, 8, 9] rfl K_43
                    · have h := ift hc_53 h
                      refine g_goto X (tgt := 740) dL_moves_696 (by decide) ?_
                      cases h
                      exact g_sub [0, 1, 2, 3, 4, 5, 6, 7, 8, 9] rfl K_43
            obtain ⟨o_36, ρ_35, hl_57, h⟩ := bnd2_some h
            refine g_sub [6, 8, 9, 10, 11, 12, 5, 2, 1, 0] rfl (L_34 a2 a3 a4 h4 a5 h5 a6 h6 r_2 (r_15 - r_15 / (4 : Int32) * (4 : Int32)) σ rfl FU (0 : Int32) (0 : Int32) ρ_16 o_36 ρ_35 hl_57 ?_)
            refine g_aload_n X dL_moves_746 rfl 0 rfl ?_
            refine g_iload_n X dL_moves_747 rfl 2 rfl ?_
            refine g_iload_n X dL_moves_748 rfl 1 rfl ?_
            refine g_iload X dL_moves_749 7 rfl ?_
            refine g_iconst X dL_moves_751 (v := (0 : Int32)) (by decide) ?_
            obtain ⟨r_59, σ_60, hf_58, h⟩ := bnd2_some h
            refine h_callIT (As := [.ref (A 0), .int a3, .int a2, .int (r_15 - r_15 / (4 : Int32) * (4 : Int32)), .int (0 : Int32)]) (Wf := lWf cy A aK B X8) (ws9 := (lW cy A aK B X8 σ_60 ρ_35)) X (ZL_ok _ _ _ _ _ _ _ _) (m_L_done hl hf_58) (vx_cwSW 5 X.1.2.2.2.2 gZL_moves_L_done rfl rfl rfl (by decide +kernel) ⟨Nat.le_of_ble_eq_true rfl, Nat.le_of_ble_eq_true rfl⟩) rfl rfl (Nat.le_of_ble_eq_true rfl) ⟨by decide, by decide⟩ dL_moves_752 rfl rfl (k' := 1) (n' := 6) (by decide) (by decide) ?_
            refine g_iload X dL_moves_755 5 rfl ?_
            refine g_iload X dL_moves_757 6 rfl ?_
            refine g_isub X dL_moves_759 ?_
            obtain ⟨v_62, ρ_63, hj_73, h⟩ := bnd2_some h
            have K_64 : gG p l e rmL_moves s m args below meth c D (cyT cy) B9 14 (lIe (lWf cy A aK B X8) D (cyT cy) B9 below args s r (σ', ρ') 1 6) (lW cy A aK B X8 σ_60 ρ_63) 1 6 792 [] [.int v_62] := by
              obtain ⟨hg_72, h⟩ := grd_some h
              cases h
              exact g_zret (Wf := (lWf cy A aK B X8)) (u := (_, _)) X (nar01 hg_72) ⟨rfl, rfl⟩ dL_moves_792
            have h := hj_73
            clear hj_73
            refine g_icmp_ne X (tgt := 791) dL_moves_760 (by decide) (fun hc_61 => ?_) (fun hc_61 => ?_)
            · have h := iff_ hc_61 h
              refine g_iconst X dL_moves_791 (v := (0 : Int32)) (by decide) ?_
              cases h
              exact g_sub [] rfl K_64
            · have h := ift hc_61 h
              refine g_aload_n X dL_moves_763 rfl 0 rfl ?_
              refine g_iload_n X dL_moves_764 rfl 1 rfl ?_
              refine g_aload X dL_moves_765 4 rfl ?_
              obtain ⟨r_66, ρ_67, hf_65, h⟩ := bnd2_some h
              refine h_callI (As := [.ref (A 0), .int a2, .ref (B (1 + a6))]) (Wf := lWf cy A aK B X8) (ws9 := (lW cy A aK B X8 σ_60 ρ_67)) X (ZL_ok _ _ _ _ _ _ _ _) (m_L_sees h6 hl hf_65) (va_cwS 3 X.1.2.2.2.2 gZL_moves_L_sees rfl rfl rfl (by decide +kernel) ⟨Nat.le_of_ble_eq_true rfl, Nat.le_of_ble_eq_true rfl⟩) rfl rfl (Nat.le_of_ble_eq_true rfl) ⟨by decide, by decide⟩ dL_moves_767 rfl rfl (k' := 1) (n' := 6) (by decide) (by decide) ?_
              refine g_iload X dL_moves_770 6 rfl ?_
              refine g_icmp_ne X (tgt := 791) dL_moves_772 (by decide) (fun hc_68 => ?_) (fun hc_68 => ?_)
              · have h := iff_ hc_68 h
                refine g_iconst X dL_moves_791 (v := (0 : Int32)) (by decide) ?_
                cases h
                exact g_sub [] rfl K_64
              · have h := ift hc_68 h
                refine g_aload X dL_moves_775 3 rfl ?_
                refine g_aload X dL_moves_777 4 rfl ?_
                refine g_iload X dL_moves_779 6 rfl ?_
                obtain ⟨r_70, hf_69, h⟩ := bnd_some h
                refine h_callI (As := [.ref (B (1 + a5)), .ref (B (1 + a6)), .int o_36]) (Wf := lWf cy A aK B X8) (ws9 := (lW cy A aK B X8 σ_60 ρ_67)) X (ZL_ok _ _ _ _ _ _ _ _) (m_L_isLike h5 h6 hf_69) (va_cwS 3 X.1.2.2.2.2 gZL_moves_L_isLike rfl rfl rfl (by decide +kernel) ⟨Nat.le_of_ble_eq_true rfl, Nat.le_of_ble_eq_true rfl⟩) rfl rfl (Nat.le_of_ble_eq_true rfl) ⟨by decide, by decide⟩ dL_moves_781 rfl rfl (k' := 1) (n' := 6) (by decide) (by decide) ?_
                refine g_if_eq X (tgt := 791) dL_moves_784 (by decide) (fun hc_71 => ?_) (fun hc_71 => ?_)
                · have h := ift hc_71 h
                  refine g_iconst X dL_moves_791 (v := (0 : Int32)) (by decide) ?_
                  cases h
                  exact g_sub [] rfl K_64
                · have h := iff_ hc_71 h
                  refine g_iconst X dL_moves_787 (v := (1 : Int32)) (by decide) ?_
                  refine g_goto X (tgt := 792) dL_moves_788 (by decide) ?_
                  cases h
                  exact g_sub [] rfl K_64
          · have h := ift hc_13 h
            refine g_iload X dL_moves_465 2 rfl ?_
            refine g_if_ne X (tgt := 489) dL_moves_467 (by decide) (fun hc_74 => ?_) (fun hc_74 => ?_)
            · have h := iff_ hc_74 h
              refine g_aload_n X dL_moves_489 rfl 4 rfl ?_
              obtain ⟨r_76, ρ_77, hf_75, h⟩ := bnd2_some h
              refine h_callI (As := [.ref (B 0)]) (Wf := lWf cy A aK B X8) (ws9 := (lW cy A aK B X8 σ ρ_77)) X (ZL_ok _ _ _ _ _ _ _ _) (m_L_next hf_75) (va_cwS 1 X.1.2.2.2.2 gZL_moves_L_next rfl rfl rfl (by decide +kernel) ⟨Nat.le_of_ble_eq_true rfl, Nat.le_of_ble_eq_true rfl⟩) rfl rfl (Nat.le_of_ble_eq_true rfl) ⟨by decide, by decide⟩ dL_moves_490 rfl rfl (k' := 0) (n' := 0) (by decide) (by decide) ?_
              refine g_iload X dL_moves_493 2 rfl ?_
              obtain ⟨hg_78, h⟩ := grd_some h
              refine g_irem X dL_moves_495 hg_78 ?_
              refine g_istore X dL_moves_496 (by decide) (lv' := [(10, .int (r_76 - r_76 / r_2 * r_2)), (9, .int r_8), (8, .int (((a2 + (1 : Int32)) + (r_5 - r_5 / (3 : Int32) * (3 : Int32))) - ((a2 + (1 : Int32)) + (r_5 - r_5 / (3 : Int32) * (3 : Int32))) / (4 : Int32) * (4 : Int32))), (7, .int r_2), (0, .ref (A 0)), (1, .ref (B 0)), (2, .int a2), (3, .int a3), (4, .ref (B (1 + a4))), (5, .ref (B (1 + a5))), (6, .ref (B (1 + a6)))]) rfl ?_
              refine g_aload_n X dL_moves_498 rfl 5 rfl ?_
              obtain ⟨r_80, ρ_81, hf_79, h⟩ := bnd2_some h
              refine h_callI (As := [.ref (B 0)]) (Wf := lWf cy A aK B X8) (ws9 := (lW cy A aK B X8 σ ρ_81)) X (ZL_ok _ _ _ _ _ _ _ _) (m_L_next hf_79) (va_cwS 1 X.1.2.2.2.2 gZL_moves_L_next rfl rfl rfl (by decide +kernel) ⟨Nat.le_of_ble_eq_true rfl, Nat.le_of_ble_eq_true rfl⟩) rfl rfl (Nat.le_of_ble_eq_true rfl) ⟨by decide, by decide⟩ dL_moves_499 rfl rfl (k' := 0) (n' := 0) (by decide) (by decide) ?_
              refine g_iload X dL_moves_502 3 rfl ?_
              obtain ⟨hg_82, h⟩ := grd_some h
              refine g_irem X dL_moves_504 hg_82 ?_
              refine g_istore X dL_moves_505 (by decide) (lv' := [(11, .int (r_80 - r_80 / r_2 * r_2)), (10, .int (r_76 - r_76 / r_2 * r_2)), (9, .int r_8), (8, .int (((a2 + (1 : Int32)) + (r_5 - r_5 / (3 : Int32) * (3 : Int32))) - ((a2 + (1 : Int32)) + (r_5 - r_5 / (3 : Int32) * (3 : Int32))) / (4 : Int32) * (4 : Int32))), (7, .int r_2), (0, .ref (A 0)), (1, .ref (B 0)), (2, .int a2), (3, .int a3), (4, .ref (B (1 + a4))), (5, .ref (B (1 + a5))), (6, .ref (B (1 + a6)))]) rfl ?_
              refine g_aload_n X dL_moves_507 rfl 5 rfl ?_
              refine g_bipush X dL_moves_508 (v := (9 : Int32)) (by decide) ?_
              refine g_iload_n X dL_moves_510 rfl 7 rfl ?_
              refine g_iload X dL_moves_511 1 rfl ?_
              refine g_iload X dL_moves_513 0 rfl ?_
              obtain ⟨r_84, σ_85, hf_83, h⟩ := bnd2_some h
              refine h_callIT (As := [.ref (A 0), .int (9 : Int32), .int a2, .int (r_76 - r_76 / r_2 * r_2), .int (r_80 - r_80 / r_2 * r_2)]) (Wf := lWf cy A aK B X8) (ws9 := (lW cy A aK B X8 σ_85 ρ_81)) X (ZL_ok _ _ _ _ _ _ _ _) (m_L_done hl hf_83) (vx_cwSW 5 X.1.2.2.2.2 gZL_moves_L_done rfl rfl rfl (by decide +kernel) ⟨Nat.le_of_ble_eq_true rfl, Nat.le_of_ble_eq_true rfl⟩) rfl rfl (Nat.le_of_ble_eq_true rfl) ⟨by decide, by decide⟩ dL_moves_515 rfl rfl (k' := 1) (n' := 6) (by decide) (by decide) ?_
              refine g_aload X dL_moves_518 9 rfl ?_
              refine g_iconst X dL_moves_520 (v := (2 : Int32)) (by decide) ?_
              refine h_aald X h4 (k9 := 2) (by decide) (by decide) (by decide) dL_moves_521 ?_
              refine g_iload X dL_moves_522 1 rfl ?_
              obtain ⟨hg_86, h⟩ := grd_some h
              refine h_gld X (isGr.mk h4 (k9 := 2) (by decide)) (k9 := (r_76 - r_76 / r_2 * r_2).toNatClampNeg) hg_86 rfl dL_moves_524 ?_
              obtain ⟨v_88, ρ_89, hj_137, h⟩ := bnd2_some h
              have K_90 : gG p l e rmL_moves s m args below meth c D (cyT cy) B9 14 (lIe (lWf cy A aK B X8) D (cyT cy) B9 below args s r (σ', ρ') 1 6) (lW cy A aK B X8 σ_85 ρ_89) 1 6 562 [(4, .ref (B (1 + a4))), (6, .ref (B (1 + a6))), (7, .int r_2), (10, .int (r_76 - r_76 / r_2 * r_2)), (11, .int (r_80 - r_80 / r_2 * r_2))] [.int v_88] := by
                refine g_istore X dL_moves_562 (by decide) (lv' := [(12, .int v_88), (4, .ref (B (1 + a4))), (6, .ref (B (1 + a6))), (7, .int r_2), (10, .int (r_76 - r_76 / r_2 * r_2)), (11, .int (r_80 - r_80 / r_2 * r_2))]) rfl ?_
                refine g_iconst X dL_moves_564 (v := (0 : Int32)) (by decide) ?_
                refine g_istore X dL_moves_565 (by decide) (lv' := [(13, .int (0 : Int32)), (12, .int v_88), (4, .ref (B (1 + a4))), (6, .ref (B (1 + a6))), (7, .int r_2), (10, .int (r_76 - r_76 / r_2 * r_2)), (11, .int (r_80 - r_80 / r_2 * r_2))]) rfl ?_
                have L_111 : ∀ (c_98 : Nat) (hp_99 : c_98 < 3) (c_100 : Nat) (hp_101 : c_100 < 3) (c_102 : Int32) (c_103 : Int32) (c_104 : Int32) (σ_113 : St) (hz_115 : σ_113 = σ_85) (ρ_114 : St) (hz_116 : ρ_114 = ρ_89) (n_107 : Nat) (v_105 : Int32) (v_106 : Int32) (o_112 : Int32), f_L_moves_L567 c_98 c_100 c_102 c_103 c_104 ρ_114 n_107 v_105 v_106 = some (o_112) → gG p l e rmL_moves s m args below meth c D (cyT cy) B9 14 (lIe (lWf cy A aK B X8) D (cyT cy) B9 below args s r (σ', ρ') 1 6) (lW cy A aK B X8 σ_113 ρ_114) 1 6 654 [(12, .int o_112)] [] → gG p l e rmL_moves s m args below meth c D (cyT cy) B9 14 (lIe (lWf cy A aK B X8) D (cyT cy) B9 below args s r (σ', ρ') 1 6) (lW cy A aK B X8 σ_113 ρ_114) 1 6 567 [(4, .ref (B (1 + c_98))), (6, .ref (B (1 + c_100))), (7, .int c_102), (10, .int c_103), (11, .int c_104), (12, .int v_105), (13, .int v_106)] [] := by
                  intro c_98 hp_99 c_100 hp_101 c_102 c_103 c_104 σ_113 hz_115 ρ_114 hz_116 n_107
                  induction n_107 with
                  | zero =>
                    intro v_105 v_106 o_112 h K_109
                    rw [f_L_moves_L567] at h
                    cases h
                  | succ n_107 ih_108 =>
                    intro v_105 v_106 o_112 h K_109
                    rw [f_L_moves_L567] at h
                    refine g_iload X dL_moves_567 6 rfl ?_
                    refine g_iload X dL_moves_569 2 rfl ?_
                    refine g_icmp_ge X (tgt := 654) dL_moves_571 (by decide) (fun hc_117 => ?_) (fun hc_117 => ?_)
                    · have h := ift hc_117 h
                      cases h
                      exact g_sub [5] rfl K_109
                    · have h := iff_ hc_117 h
                      refine g_iload X dL_moves_574 5 rfl ?_
                      refine g_if_eq X (tgt := 654) dL_moves_576 (by decide) (fun hc_118 => ?_) (fun hc_118 => ?_)
                      · have h := ift hc_118 h
                        cases h
                        exact g_sub [5] rfl K_109
                      · have h := iff_ hc_118 h
                        refine g_iload X dL_moves_579 6 rfl ?_
                        refine g_iload X dL_moves_581 3 rfl ?_
                        obtain ⟨v_120, hj_134, h⟩ := bnd_some h
                        have K_121 : gG p l e rmL_moves s m args below meth c D (cyT cy) B9 14 (lIe (lWf cy A aK B X8) D (cyT cy) B9 below args s r (σ', ρ') 1 6) (lW cy A aK B X8 σ_113 ρ_114) 1 6 646 [(4, .ref (B (1 + c_98))), (6, .ref (B (1 + c_100))), (7, .int c_102), (10, .int c_103), (11, .int c_104), (13, .int v_106)] [.int v_120] := by
                          refine g_istore X dL_moves_646 (by decide) (lv' := [(12, .int v_120), (4, .ref (B (1 + c_98))), (6, .ref (B (1 + c_100))), (7, .int c_102), (10, .int c_103), (11, .int c_104), (13, .int v_106)]) rfl ?_
                          refine g_iinc X dL_moves_648 6 rfl (v := v_106 + (1 : Int32)) rfl (by decide) (lv' := [(13, .int (v_106 + (1 : Int32))), (12, .int v_120), (4, .ref (B (1 + c_98))), (6, .ref (B (1 + c_100))), (7, .int c_102), (10, .int c_103), (11, .int c_104)]) rfl ?_
                          refine g_goto X (tgt := 567) dL_moves_651 (by decide) ?_
                          exact g_sub [2, 3, 4, 5, 6, 1, 0] rfl (ih_108 _ _ _ h K_109)
                        have h := hj_134
                        clear hj_134
                        refine g_icmp_eq X (tgt := 641) dL_moves_583 (by decide) (fun hc_119 => ?_) (fun hc_119 => ?_)
                        · have h := ift hc_119 h
                          refine g_iconst X dL_moves_641 (v := (1 : Int32)) (by decide) ?_
                          refine g_goto X (tgt := 646) dL_moves_642 (by decide) ?_
                          cases h
                          exact g_sub [0, 1, 2, 3, 4, 6] rfl K_121
                        · have h := iff_ hc_119 h
                          refine g_aload X dL_moves_586 1 rfl ?_
                          refine g_iconst X dL_moves_588 (v := (2 : Int32)) (by decide) ?_
                          refine h_aald X hp_101 (k9 := 2) (by decide) (by decide) (by decide) dL_moves_589 ?_
                          refine g_iload X dL_moves_590 6 rfl ?_
                          refine g_iload X dL_moves_592 6 rfl ?_
                          refine g_iload X dL_moves_594 3 rfl ?_
                          obtain ⟨v_123, hj_133, h⟩ := bnd_some h
                          have K_124 : gG p l e rmL_moves s m args below meth c D (cyT cy) B9 14 (lIe (lWf cy A aK B X8) D (cyT cy) B9 below args s r (σ', ρ') 1 6) (lW cy A aK B X8 σ_113 ρ_114) 1 6 629 [(4, .ref (B (1 + c_98))), (6, .ref (B (1 + c_100))), (7, .int c_102), (10, .int c_103), (11, .int c_104), (13, .int v_106)] [.int v_123, .int v_106, .ref (B (4 + 3 * c_100 + 2))] := by
                            refine g_iadd X dL_moves_629 ?_
                            obtain ⟨hg_130, h⟩ := grd_some h
                            refine h_gld X (isGr.mk hp_101 (k9 := 2) (by decide)) (k9 := (v_106 + v_123).toNatClampNeg) hg_130 rfl dL_moves_630 ?_
                            refine g_aload X dL_moves_631 0 rfl ?_
                            refine g_iconst X dL_moves_633 (v := (2 : Int32)) (by decide) ?_
                            refine h_aald X hp_99 (k9 := 2) (by decide) (by decide) (by decide) dL_moves_634 ?_
                            refine g_iload X dL_moves_635 5 rfl ?_
                            obtain ⟨hg_131, h⟩ := grd_some h
                            refine h_gld X (isGr.mk hp_99 (k9 := 2) (by decide)) (k9 := v_106.toNatClampNeg) hg_131 rfl dL_moves_637 ?_
                            refine g_icmp_ne X (tgt := 645) dL_moves_638 (by decide) (fun hc_132 => ?_) (fun hc_132 => ?_)
                            · have h := iff_ hc_132 h
                              refine g_iconst X dL_moves_645 (v := (0 : Int32)) (by decide) ?_
                              cases h
                              exact g_sub [0, 1, 2, 3, 4, 5] rfl K_121
                            · have h := ift hc_132 h
                              refine g_iconst X dL_moves_641 (v := (1 : Int32)) (by decide) ?_
                              refine g_goto X (tgt := 646) dL_moves_642 (by decide) ?_
                              cases h
                              exact g_sub [0, 1, 2, 3, 4, 5] rfl K_121
                          have h := hj_133
                          clear hj_133
                          refine g_icmp_le X (tgt := 610) dL_moves_596 (by decide) (fun hc_122 => ?_) (fun hc_122 => ?_)
                          · have h := ift hc_122 h
                            refine g_iload X dL_moves_610 6 rfl ?_
                            refine g_iload X dL_moves_612 3 rfl ?_
                            refine g_icmp_ge X (tgt := 628) dL_moves_614 (by decide) (fun hc_125 => ?_) (fun hc_125 => ?_)
                            · have h := ift hc_125 h
                              refine g_iconst X dL_moves_628 (v := (0 : Int32)) (by decide) ?_
                              cases h
                              exact g_sub [0, 1, 2, 3, 4, 6] rfl K_124
                            · have h := iff_ hc_125 h
                              refine g_iload X dL_moves_617 6 rfl ?_
                              refine g_iload X dL_moves_619 4 rfl ?_
                              refine g_icmp_lt X (tgt := 628) dL_moves_621 (by decide) (fun hc_126 => ?_) (fun hc_126 => ?_)
                              · have h := ift hc_126 h
                                refine g_iconst X dL_moves_628 (v := (0 : Int32)) (by decide) ?_
                                cases h
                                exact g_sub [0, 1, 2, 3, 4, 6] rfl K_124
                              · have h := iff_ hc_126 h
                                refine g_iconst X dL_moves_624 (v := (1 : Int32)) (by decide) ?_
                                refine g_goto X (tgt := 629) dL_moves_625 (by decide) ?_
                                cases h
                                exact g_sub [0, 1, 2, 3, 4, 6] rfl K_124
                          · have h := iff_ hc_122 h
                            refine g_iload X dL_moves_599 6 rfl ?_
                            refine g_iload X dL_moves_601 4 rfl ?_
                            refine g_icmp_gt X (tgt := 610) dL_moves_603 (by decide) (fun hc_127 => ?_) (fun hc_127 => ?_)
                            · have h := ift hc_127 h
                              refine g_iload X dL_moves_610 6 rfl ?_
                              refine g_iload X dL_moves_612 3 rfl ?_
                              refine g_icmp_ge X (tgt := 628) dL_moves_614 (by decide) (fun hc_128 => ?_) (fun hc_128 => ?_)
                              · have h := ift hc_128 h
                                refine g_iconst X dL_moves_628 (v := (0 : Int32)) (by decide) ?_
                                cases h
                                exact g_sub [0, 1, 2, 3, 4, 6] rfl K_124
                              · have h := iff_ hc_128 h
                                refine g_iload X dL_moves_617 6 rfl ?_
                                refine g_iload X dL_moves_619 4 rfl ?_
                                refine g_icmp_lt X (tgt := 628) dL_moves_621 (by decide) (fun hc_129 => ?_) (fun hc_129 => ?_)
                                · have h := ift hc_129 h
                                  refine g_iconst X dL_moves_628 (v := (0 : Int32)) (by decide) ?_
                                  cases h
                                  exact g_sub [0, 1, 2, 3, 4, 6] rfl K_124
                                · have h := iff_ hc_129 h
                                  refine g_iconst X dL_moves_624 (v := (1 : Int32)) (by decide) ?_
                                  refine g_goto X (tgt := 629) dL_moves_625 (by decide) ?_
                                  cases h
                                  exact g_sub [0, 1, 2, 3, 4, 6] rfl K_124
                            · have h := iff_ hc_127 h
                              refine g_iconst X dL_moves_606 (v := (-1 : Int32)) (by decide) ?_
                              refine g_goto X (tgt := 629) dL_moves_607 (by decide) ?_
                              cases h
                              exact g_sub [0, 1, 2, 3, 4, 6] rfl K_124
                obtain ⟨o_112, hl_135, h⟩ := bnd_some h
                refine g_sub [2, 3, 4, 5, 6, 1, 0] rfl (L_111 a4 h4 a6 h6 r_2 (r_76 - r_76 / r_2 * r_2) (r_80 - r_80 / r_2 * r_2) σ_85 rfl ρ_89 rfl FU v_88 (0 : Int32) o_112 hl_135 ?_)
                refine g_iload X dL_moves_654 0 rfl ?_
                obtain ⟨hg_136, h⟩ := grd_some h
                cases h
                exact g_zret (Wf := (lWf cy A aK B X8)) (u := (_, _)) X (nar01 hg_136) ⟨rfl, rfl⟩ dL_moves_656
              have h := hj_137
              clear hj_137
              refine g_icmp_ne X (tgt := 561) dL_moves_525 (by decide) (fun hc_87 => ?_) (fun hc_87 => ?_)
              · have h := iff_ hc_87 h
                refine g_iconst X dL_moves_561 (v := (0 : Int32)) (by decide) ?_
                cases h
                exact g_sub [9, 11, 4, 1, 0] rfl K_90
              · have h := ift hc_87 h
                refine g_aload_n X dL_moves_528 rfl 5 rfl ?_
                refine g_iload_n X dL_moves_529 rfl 7 rfl ?_
                refine g_aload X dL_moves_530 11 rfl ?_
                obtain ⟨r_92, ρ_93, hf_91, h⟩ := bnd2_some h
                refine h_callI (As := [.ref (A 0), .int a2, .ref (B (1 + a6))]) (Wf := lWf cy A aK B X8) (ws9 := (lW cy A aK B X8 σ_85 ρ_93)) X (ZL_ok _ _ _ _ _ _ _ _) (m_L_sees h6 hl hf_91) (va_cwS 3 X.1.2.2.2.2 gZL_moves_L_sees rfl rfl rfl (by decide +kernel) ⟨Nat.le_of_ble_eq_true rfl, Nat.le_of_ble_eq_true rfl⟩) rfl rfl (Nat.le_of_ble_eq_true rfl) ⟨by decide, by decide⟩ dL_moves_532 rfl rfl (k' := 1) (n' := 6) (by decide) (by decide) ?_
                refine g_iload X dL_moves_535 4 rfl ?_
                refine g_icmp_ne X (tgt := 561) dL_moves_537 (by decide) (fun hc_94 => ?_) (fun hc_94 => ?_)
                · have h := iff_ hc_94 h
                  refine g_iconst X dL_moves_561 (v := (0 : Int32)) (by decide) ?_
                  cases h
                  exact g_sub [9, 11, 4, 1, 0] rfl K_90
                · have h := ift hc_94 h
                  refine g_aload X dL_moves_540 11 rfl ?_
                  refine g_iconst X dL_moves_542 (v := (2 : Int32)) (by decide) ?_
                  refine h_aald X h6 (k9 := 2) (by decide) (by decide) (by decide) dL_moves_543 ?_
                  refine g_iload X dL_moves_544 0 rfl ?_
                  obtain ⟨hg_95, h⟩ := grd_some h
                  refine h_gld X (isGr.mk h6 (k9 := 2) (by decide)) (k9 := (r_80 - r_80 / r_2 * r_2).toNatClampNeg) hg_95 rfl dL_moves_546 ?_
                  refine g_aload X dL_moves_547 9 rfl ?_
                  refine g_iconst X dL_moves_549 (v := (2 : Int32)) (by decide) ?_
                  refine h_aald X h4 (k9 := 2) (by decide) (by decide) (by decide) dL_moves_550 ?_
                  refine g_iload X dL_moves_551 1 rfl ?_
                  obtain ⟨hg_96, h⟩ := grd_some h
                  refine h_gld X (isGr.mk h4 (k9 := 2) (by decide)) (k9 := (r_76 - r_76 / r_2 * r_2).toNatClampNeg) hg_96 rfl dL_moves_553 ?_
                  refine g_icmp_ne X (tgt := 561) dL_moves_554 (by decide) (fun hc_97 => ?_) (fun hc_97 => ?_)
                  · have h := iff_ hc_97 h
                    refine g_iconst X dL_moves_561 (v := (0 : Int32)) (by decide) ?_
                    cases h
                    exact g_sub [9, 11, 4, 1, 0] rfl K_90
                  · have h := ift hc_97 h
                    refine g_iconst X dL_moves_557 (v := (1 : Int32)) (by decide) ?_
                    refine g_goto X (tgt := 562) dL_moves_558 (by decide) ?_
                    cases h
                    exact g_sub [9, 11, 4, 1, 0] rfl K_90
            · have h := ift hc_74 h
              refine g_aload_n X dL_moves_470 rfl 3 rfl ?_
              refine g_bipush X dL_moves_471 (v := (9 : Int32)) (by decide) ?_
              refine g_iload_n X dL_moves_473 rfl 5 rfl ?_
              refine g_iconst X dL_moves_474 (v := (0 : Int32)) (by decide) ?_
              refine g_iconst X dL_moves_475 (v := (0 : Int32)) (by decide) ?_
              obtain ⟨r_139, σ_140, hf_138, h⟩ := bnd2_some h
              refine h_callIT (As := [.ref (A 0), .int (9 : Int32), .int a2, .int (0 : Int32), .int (0 : Int32)]) (Wf := lWf cy A aK B X8) (ws9 := (lW cy A aK B X8 σ_140 ρ_9)) X (ZL_ok _ _ _ _ _ _ _ _) (m_L_done hl hf_138) (vx_cwSW 5 X.1.2.2.2.2 gZL_moves_L_done rfl rfl rfl (by decide +kernel) ⟨Nat.le_of_ble_eq_true rfl, Nat.le_of_ble_eq_true rfl⟩) rfl rfl (Nat.le_of_ble_eq_true rfl) ⟨by decide, by decide⟩ dL_moves_476 rfl rfl (k' := 1) (n' := 6) (by decide) (by decide) ?_
              refine g_iconst X dL_moves_479 (v := (-1 : Int32)) (by decide) ?_
              obtain ⟨v_142, hj_145, h⟩ := bnd_some h
              have K_143 : gG p l e rmL_moves s m args below meth c D (cyT cy) B9 14 (lIe (lWf cy A aK B X8) D (cyT cy) B9 below args s r (σ', ρ') 1 6) (lW cy A aK B X8 σ_140 ρ_9) 1 6 488 [] [.int v_142] := by
                obtain ⟨hg_144, h⟩ := grd_some h
                cases h
                exact g_zret (Wf := (lWf cy A aK B X8)) (u := (_, _)) X (nar01 hg_144) ⟨rfl, rfl⟩ dL_moves_488
              have h := hj_145
              clear hj_145
              refine g_icmp_ne X (tgt := 487) dL_moves_480 (by decide) (fun hc_141 => ?_) (fun hc_141 => ?_)
              · have h := iff_ hc_141 h
                refine g_iconst X dL_moves_487 (v := (0 : Int32)) (by decide) ?_
                cases h
                exact g_sub [] rfl K_143
              · have h := ift hc_141 h
                refine g_iconst X dL_moves_483 (v := (1 : Int32)) (by decide) ?_
                refine g_goto X (tgt := 488) dL_moves_484 (by decide) ?_
                cases h
                exact g_sub [] rfl K_143
        · have h := ift hc_12 h
          refine g_aload_n X dL_moves_373 rfl 3 rfl ?_
          refine g_bipush X dL_moves_374 (v := (8 : Int32)) (by decide) ?_
          refine g_iload_n X dL_moves_376 rfl 5 rfl ?_
          refine g_iconst X dL_moves_377 (v := (0 : Int32)) (by decide) ?_
          refine g_iconst X dL_moves_378 (v := (0 : Int32)) (by decide) ?_
          obtain ⟨r_147, σ_148, hf_146, h⟩ := bnd2_some h
          refine h_callIT (As := [.ref (A 0), .int (8 : Int32), .int a2, .int (0 : Int32), .int (0 : Int32)]) (Wf := lWf cy A aK B X8) (ws9 := (lW cy A aK B X8 σ_148 ρ_9)) X (ZL_ok _ _ _ _ _ _ _ _) (m_L_done hl hf_146) (vx_cwSW 5 X.1.2.2.2.2 gZL_moves_L_done rfl rfl rfl (by decide +kernel) ⟨Nat.le_of_ble_eq_true rfl, Nat.le_of_ble_eq_true rfl⟩) rfl rfl (Nat.le_of_ble_eq_true rfl) ⟨by decide, by decide⟩ dL_moves_379 rfl rfl (k' := 1) (n' := 6) (by decide) (by decide) ?_
          refine g_iload X dL_moves_382 2 rfl ?_
          obtain ⟨v_150, ρ_151, hj_184, h⟩ := bnd2_some h
          have K_152 : gG p l e rmL_moves s m args below meth c D (cyT cy) B9 14 (lIe (lWf cy A aK B X8) D (cyT cy) B9 below args s r (σ', ρ') 1 6) (lW cy A aK B X8 σ_148 ρ_151) 1 6 404 [(4, .ref (B (1 + a4))), (6, .ref (B (1 + a6))), (7, .int r_2)] [.int v_150] := by
            refine g_istore X dL_moves_404 (by decide) (lv' := [(10, .int v_150), (4, .ref (B (1 + a4))), (6, .ref (B (1 + a6))), (7, .int r_2)]) rfl ?_
            refine g_iconst X dL_moves_406 (v := (0 : Int32)) (by decide) ?_
            refine g_istore X dL_moves_407 (by decide) (lv' := [(11, .int (0 : Int32)), (10, .int v_150), (4, .ref (B (1 + a4))), (6, .ref (B (1 + a6))), (7, .int r_2)]) rfl ?_
            have L_168 : ∀ (c_157 : Nat) (hp_158 : c_157 < 3) (c_159 : Nat) (hp_160 : c_159 < 3) (c_161 : Int32) (σ_170 : St) (hz_172 : σ_170 = σ_148) (ρ_171 : St) (hz_173 : ρ_171 = ρ_151) (n_164 : Nat) (v_162 : Int32) (v_163 : Int32) (o_169 : Int32), f_L_moves_L409 c_157 c_159 c_161 ρ_171 n_164 v_162 v_163 = some (o_169) → gG p l e rmL_moves s m args below meth c D (cyT cy) B9 14 (lIe (lWf cy A aK B X8) D (cyT cy) B9 below args s r (σ', ρ') 1 6) (lW cy A aK B X8 σ_170 ρ_171) 1 6 456 [(10, .int o_169)] [] → gG p l e rmL_moves s m args below meth c D (cyT cy) B9 14 (lIe (lWf cy A aK B X8) D (cyT cy) B9 below args s r (σ', ρ') 1 6) (lW cy A aK B X8 σ_170 ρ_171) 1 6 409 [(4, .ref (B (1 + c_157))), (6, .ref (B (1 + c_159))), (7, .int c_161), (10, .int v_162), (11, .int v_163)] [] := by
              intro c_157 hp_158 c_159 hp_160 c_161 σ_170 hz_172 ρ_171 hz_173 n_164
              induction n_164 with
              | zero =>
                intro v_162 v_163 o_169 h K_166
                rw [f_L_moves_L409] at h
                cases h
              | succ n_164 ih_165 =>
                intro v_162 v_163 o_169 h K_166
                rw [f_L_moves_L409] at h
                refine g_iload X dL_moves_409 4 rfl ?_
                refine g_iload X dL_moves_411 2 rfl ?_
                refine g_icmp_ge X (tgt := 456) dL_moves_413 (by decide) (fun hc_174 => ?_) (fun hc_174 => ?_)
                · have h := ift hc_174 h
                  cases h
                  exact g_sub [3] rfl K_166
                · have h := iff_ hc_174 h
                  refine g_iload X dL_moves_416 3 rfl ?_
                  refine g_if_eq X (tgt := 456) dL_moves_418 (by decide) (fun hc_175 => ?_) (fun hc_175 => ?_)
                  · have h := ift hc_175 h
                    cases h
                    exact g_sub [3] rfl K_166
                  · have h := iff_ hc_175 h
                    refine g_aload X dL_moves_421 1 rfl ?_
                    refine g_iconst X dL_moves_423 (v := (2 : Int32)) (by decide) ?_
                    refine h_aald X hp_160 (k9 := 2) (by decide) (by decide) (by decide) dL_moves_424 ?_
                    refine g_iload X dL_moves_425 4 rfl ?_
                    obtain ⟨hg_176, h⟩ := grd_some h
                    refine h_gld X (isGr.mk hp_160 (k9 := 2) (by decide)) (k9 := v_163.toNatClampNeg) hg_176 rfl dL_moves_427 ?_
                    refine g_aload X dL_moves_428 0 rfl ?_
                    refine g_iconst X dL_moves_430 (v := (2 : Int32)) (by decide) ?_
                    refine h_aald X hp_158 (k9 := 2) (by decide) (by decide) (by decide) dL_moves_431 ?_
                    refine g_iload X dL_moves_432 2 rfl ?_
                    refine g_iconst X dL_moves_434 (v := (1 : Int32)) (by decide) ?_
                    refine g_isub X dL_moves_435 ?_
                    refine g_iload X dL_moves_436 4 rfl ?_
                    refine g_isub X dL_moves_438 ?_
                    obtain ⟨hg_177, h⟩ := grd_some h
                    refine h_gld X (isGr.mk hp_158 (k9 := 2) (by decide)) (k9 := ((c_161 - (1 : Int32)) - v_163).toNatClampNeg) hg_177 rfl dL_moves_439 ?_
                    obtain ⟨v_179, hj_181, h⟩ := bnd_some h
                    have K_180 : gG p l e rmL_moves s m args below meth c D (cyT cy) B9 14 (lIe (lWf cy A aK B X8) D (cyT cy) B9 below args s r (σ', ρ') 1 6) (lW cy A aK B X8 σ_170 ρ_171) 1 6 448 [(4, .ref (B (1 + c_157))), (6, .ref (B (1 + c_159))), (7, .int c_161), (11, .int v_163)] [.int v_179] := by
                      refine g_istore X dL_moves_448 (by decide) (lv' := [(10, .int v_179), (4, .ref (B (1 + c_157))), (6, .ref (B (1 + c_159))), (7, .int c_161), (11, .int v_163)]) rfl ?_
                      refine g_iinc X dL_moves_450 4 rfl (v := v_163 + (1 : Int32)) rfl (by decide) (lv' := [(11, .int (v_163 + (1 : Int32))), (10, .int v_179), (4, .ref (B (1 + c_157))), (6, .ref (B (1 + c_159))), (7, .int c_161)]) rfl ?_
                      refine g_goto X (tgt := 409) dL_moves_453 (by decide) ?_
                      exact g_sub [2, 3, 4, 1, 0] rfl (ih_165 _ _ _ h K_166)
                    have h := hj_181
                    clear hj_181
                    refine g_icmp_ne X (tgt := 447) dL_moves_440 (by decide) (fun hc_178 => ?_) (fun hc_178 => ?_)
                    · have h := iff_ hc_178 h
                      refine g_iconst X dL_moves_447 (v := (0 : Int32)) (by decide) ?_
                      cases h
                      exact g_sub [0, 1, 2, 4] rfl K_180
                    · have h := ift hc_178 h
                      refine g_iconst X dL_moves_443 (v := (1 : Int32)) (by decide) ?_
                      refine g_goto X (tgt := 448) dL_moves_444 (by decide) ?_
                      cases h
                      exact g_sub [0, 1, 2, 4] rfl K_180
            obtain ⟨o_169, hl_182, h⟩ := bnd_some h
            refine g_sub [2, 3, 4, 1, 0] rfl (L_168 a4 h4 a6 h6 r_2 σ_148 rfl ρ_151 rfl FU v_150 (0 : Int32) o_169 hl_182 ?_)
            refine g_iload X dL_moves_456 0 rfl ?_
            obtain ⟨hg_183, h⟩ := grd_some h
            cases h
            exact g_zret (Wf := (lWf cy A aK B X8)) (u := (_, _)) X (nar01 hg_183) ⟨rfl, rfl⟩ dL_moves_458
          have h := hj_184
          clear hj_184
          refine g_icmp_ne X (tgt := 403) dL_moves_384 (by decide) (fun hc_149 => ?_) (fun hc_149 => ?_)
          · have h := iff_ hc_149 h
            refine g_iconst X dL_moves_403 (v := (0 : Int32)) (by decide) ?_
            cases h
            exact g_sub [7, 9, 2] rfl K_152
          · have h := ift hc_149 h
            refine g_aload_n X dL_moves_387 rfl 3 rfl ?_
            refine g_iload_n X dL_moves_388 rfl 5 rfl ?_
            refine g_aload X dL_moves_389 9 rfl ?_
            obtain ⟨r_154, ρ_155, hf_153, h⟩ := bnd2_some h
            refine h_callI (As := [.ref (A 0), .int a2, .ref (B (1 + a6))]) (Wf := lWf cy A aK B X8) (ws9 := (lW cy A aK B X8 σ_148 ρ_155)) X (ZL_ok _ _ _ _ _ _ _ _) (m_L_sees h6 hl hf_153) (va_cwS 3 X.1.2.2.2.2 gZL_moves_L_sees rfl rfl rfl (by decide +kernel) ⟨Nat.le_of_ble_eq_true rfl, Nat.le_of_ble_eq_true rfl⟩) rfl rfl (Nat.le_of_ble_eq_true rfl) ⟨by decide, by decide⟩ dL_moves_391 rfl rfl (k' := 1) (n' := 6) (by decide) (by decide) ?_
            refine g_iload X dL_moves_394 2 rfl ?_
            refine g_icmp_ne X (tgt := 403) dL_moves_396 (by decide) (fun hc_156 => ?_) (fun hc_156 => ?_)
            · have h := iff_ hc_156 h
              refine g_iconst X dL_moves_403 (v := (0 : Int32)) (by decide) ?_
              cases h
              exact g_sub [7, 9, 2] rfl K_152
            · have h := ift hc_156 h
              refine g_iconst X dL_moves_399 (v := (1 : Int32)) (by decide) ?_
              refine g_goto X (tgt := 404) dL_moves_400 (by decide) ?_
              cases h
              exact g_sub [7, 9, 2] rfl K_152
      · have h := ift hc_11 h
        refine g_iload X dL_moves_170 0 rfl ?_
        refine g_iload X dL_moves_172 2 rfl ?_
        refine g_iconst X dL_moves_174 (v := (2 : Int32)) (by decide) ?_
        refine g_idiv X dL_moves_175 (by decide) ?_
        refine g_iadd X dL_moves_176 ?_
        refine g_sipush X dL_moves_177 (v := (800 : Int32)) (by decide) ?_
        refine g_icmp_le X (tgt := 204) dL_moves_180 (by decide) (fun hc_185 => ?_) (fun hc_185 => ?_)
        · have h := ift hc_185 h
          refine g_iconst X dL_moves_204 (v := (1 : Int32)) (by decide) ?_
          refine g_istore X dL_moves_205 (by decide) (lv' := [(10, .int (1 : Int32)), (9, .int r_8), (8, .int (((a2 + (1 : Int32)) + (r_5 - r_5 / (3 : Int32) * (3 : Int32))) - ((a2 + (1 : Int32)) + (r_5 - r_5 / (3 : Int32) * (3 : Int32))) / (4 : Int32) * (4 : Int32))), (7, .int r_2), (0, .ref (A 0)), (1, .ref (B 0)), (2, .int a2), (3, .int a3), (4, .ref (B (1 + a4))), (5, .ref (B (1 + a5))), (6, .ref (B (1 + a6)))]) rfl ?_
          have L_202 : ∀ (c_186 : Int32) (c_187 : Nat) (hp_188 : c_187 < 3) (c_189 : Nat) (hp_190 : c_189 < 3) (c_191 : Nat) (hp_192 : c_191 < 3) (c_193 : Int32) (c_194 : Int32) (c_195 : Int32) (σ_204 : St) (hz_205 : σ_204 = σ) (n_198 : Nat) (v_196 : Int32) (ρ_197 : St) (ρ_203 : St), f_L_moves_L207 c_187 c_189 c_193 c_195 n_198 v_196 ρ_197 = some (ρ_203) → gG p l e rmL_moves s m args below meth c D (cyT cy) B9 14 (lIe (lWf cy A aK B X8) D (cyT cy) B9 below args s r (σ', ρ') 1 6) (lW cy A aK B X8 σ_204 ρ_203) 0 0 236 [(0, .ref (A 0)), (2, .int c_186), (4, .ref (B (1 + c_187))), (5, .ref (B (1 + c_189))), (6, .ref (B (1 + c_191))), (7, .int c_193), (8, .int c_194), (9, .int c_195)] [] → gG p l e rmL_moves s m args below meth c D (cyT cy) B9 14 (lIe (lWf cy A aK B X8) D (cyT cy) B9 below args s r (σ', ρ') 1 6) (lW cy A aK B X8 σ_204 ρ_197) 0 0 207 [(0, .ref (A 0)), (2, .int c_186), (4, .ref (B (1 + c_187))), (5, .ref (B (1 + c_189))), (6, .ref (B (1 + c_191))), (7, .int c_193), (8, .int c_194), (9, .int c_195), (10, .int v_196)] [] := by
            intro c_186 c_187 hp_188 c_189 hp_190 c_191 hp_192 c_193 c_194 c_195 σ_204 hz_205 n_198
            induction n_198 with
            | zero =>
              intro v_196 ρ_197 ρ_203 h K_200
              rw [f_L_moves_L207] at h
              cases h
            | succ n_198 ih_199 =>
              intro v_196 ρ_197 ρ_203 h K_200
              rw [f_L_moves_L207] at h
              refine g_iload X dL_moves_207 8 rfl ?_
              refine g_iload X dL_moves_209 5 rfl ?_
              refine g_icmp_ge X (tgt := 236) dL_moves_211 (by decide) (fun hc_206 => ?_) (fun hc_206 => ?_)
              · have h := ift hc_206 h
                cases h
                exact g_sub [0, 1, 2, 3, 4, 5, 6, 7] rfl K_200
              · have h := iff_ hc_206 h
                refine g_aload X dL_moves_214 2 rfl ?_
                refine g_iload X dL_moves_216 8 rfl ?_
                refine g_aload X dL_moves_218 3 rfl ?_
                refine g_iload X dL_moves_220 7 rfl ?_
                refine g_iload X dL_moves_222 8 rfl ?_
                refine g_iconst X dL_moves_224 (v := (2 : Int32)) (by decide) ?_
                refine g_idiv X dL_moves_225 (by decide) ?_
                refine g_iadd X dL_moves_226 ?_
                obtain ⟨ρ_208, hf_207, h⟩ := bnd_some h
                refine h_callV (As := [.ref (B (1 + c_187)), .int v_196, .ref (B (1 + c_189)), .int (c_195 + (v_196 / (2 : Int32)))]) (Wf := lWf cy A aK B X8) (ws9 := (lW cy A aK B X8 σ_204 ρ_208)) X (ZL_ok _ _ _ _ _ _ _ _) (m_L_copies hp_188 hp_190 hf_207) (va_cwS 4 X.1.2.2.2.2 gZL_moves_L_copies rfl rfl rfl (by decide +kernel) ⟨Nat.le_of_ble_eq_true rfl, Nat.le_of_ble_eq_true rfl⟩) rfl rfl (Nat.le_of_ble_eq_true rfl) ⟨by decide, by decide⟩ dL_moves_227 rfl rfl (k' := 0) (n' := 0) (by decide) (by decide) ?_
                refine g_iinc X dL_moves_230 8 rfl (v := v_196 + (2 : Int32)) rfl (by decide) (lv' := [(10, .int (v_196 + (2 : Int32))), (0, .ref (A 0)), (2, .int c_186), (4, .ref (B (1 + c_187))), (5, .ref (B (1 + c_189))), (6, .ref (B (1 + c_191))), (7, .int c_193), (8, .int c_194), (9, .int c_195)]) rfl ?_
                refine g_goto X (tgt := 207) dL_moves_233 (by decide) ?_
                exact g_sub [1, 2, 3, 4, 5, 6, 7, 8, 0] rfl (ih_199 _ _ _ h K_200)
          obtain ⟨ρ_203, hl_209, h⟩ := bnd_some h
          refine g_sub [4, 6, 8, 9, 10, 3, 2, 1, 0] rfl (L_202 a2 a4 h4 a5 h5 a6 h6 r_2 (((a2 + (1 : Int32)) + (r_5 - r_5 / (3 : Int32) * (3 : Int32))) - ((a2 + (1 : Int32)) + (r_5 - r_5 / (3 : Int32) * (3 : Int32))) / (4 : Int32) * (4 : Int32)) r_8 σ rfl FU (1 : Int32) ρ_9 ρ_203 hl_209 ?_)
          refine g_aload_n X dL_moves_236 rfl 0 rfl ?_
          refine g_bipush X dL_moves_237 (v := (7 : Int32)) (by decide) ?_
          refine g_iload_n X dL_moves_239 rfl 1 rfl ?_
          refine g_iload X dL_moves_240 6 rfl ?_
          refine g_iconst X dL_moves_242 (v := (0 : Int32)) (by decide) ?_
          obtain ⟨r_211, σ_212, hf_210, h⟩ := bnd2_some h
          refine h_callIT (As := [.ref (A 0), .int (7 : Int32), .int a2, .int (((a2 + (1 : Int32)) + (r_5 - r_5 / (3 : Int32) * (3 : Int32))) - ((a2 + (1 : Int32)) + (r_5 - r_5 / (3 : Int32) * (3 : Int32))) / (4 : Int32) * (4 : Int32)), .int (0 : Int32)]) (Wf := lWf cy A aK B X8) (ws9 := (lW cy A aK B X8 σ_212 ρ_203)) X (ZL_ok _ _ _ _ _ _ _ _) (m_L_done hl hf_210) (vx_cwSW 5 X.1.2.2.2.2 gZL_moves_L_done rfl rfl rfl (by decide +kernel) ⟨Nat.le_of_ble_eq_true rfl, Nat.le_of_ble_eq_true rfl⟩) rfl rfl (Nat.le_of_ble_eq_true rfl) ⟨by decide, by decide⟩ dL_moves_243 rfl rfl (k' := 1) (n' := 6) (by decide) (by decide) ?_
          refine g_iload X dL_moves_246 5 rfl ?_
          refine g_iconst X dL_moves_248 (v := (2 : Int32)) (by decide) ?_
          refine g_idiv X dL_moves_249 (by decide) ?_
          obtain ⟨v_214, ρ_215, hj_255, h⟩ := bnd2_some h
          have K_216 : gG p l e rmL_moves s m args below meth c D (cyT cy) B9 14 (lIe (lWf cy A aK B X8) D (cyT cy) B9 below args s r (σ', ρ') 1 6) (lW cy A aK B X8 σ_212 ρ_215) 1 6 310 [(4, .ref (B (1 + a4))), (6, .ref (B (1 + a6))), (7, .int r_2)] [.int v_214] := by
            refine g_istore X dL_moves_310 (by decide) (lv' := [(10, .int v_214), (4, .ref (B (1 + a4))), (6, .ref (B (1 + a6))), (7, .int r_2)]) rfl ?_
            refine g_iconst X dL_moves_312 (v := (0 : Int32)) (by decide) ?_
            refine g_istore X dL_moves_313 (by decide) (lv' := [(11, .int (0 : Int32)), (10, .int v_214), (4, .ref (B (1 + a4))), (6, .ref (B (1 + a6))), (7, .int r_2)]) rfl ?_
            have L_239 : ∀ (c_228 : Nat) (hp_229 : c_228 < 3) (c_230 : Nat) (hp_231 : c_230 < 3) (c_232 : Int32) (σ_241 : St) (hz_243 : σ_241 = σ_212) (ρ_242 : St) (hz_244 : ρ_242 = ρ_215) (n_235 : Nat) (v_233 : Int32) (v_234 : Int32) (o_240 : Int32), f_L_moves_L315 c_228 c_230 c_232 ρ_242 n_235 v_233 v_234 = some (o_240) → gG p l e rmL_moves s m args below meth c D (cyT cy) B9 14 (lIe (lWf cy A aK B X8) D (cyT cy) B9 below args s r (σ', ρ') 1 6) (lW cy A aK B X8 σ_241 ρ_242) 1 6 364 [(10, .int o_240)] [] → gG p l e rmL_moves s m args below meth c D (cyT cy) B9 14 (lIe (lWf cy A aK B X8) D (cyT cy) B9 below args s r (σ', ρ') 1 6) (lW cy A aK B X8 σ_241 ρ_242) 1 6 315 [(4, .ref (B (1 + c_228))), (6, .ref (B (1 + c_230))), (7, .int c_232), (10, .int v_233), (11, .int v_234)] [] := by
              intro c_228 hp_229 c_230 hp_231 c_232 σ_241 hz_243 ρ_242 hz_244 n_235
              induction n_235 with
              | zero =>
                intro v_233 v_234 o_240 h K_237
                rw [f_L_moves_L315] at h
                cases h
              | succ n_235 ih_236 =>
                intro v_233 v_234 o_240 h K_237
                rw [f_L_moves_L315] at h
                refine g_iload X dL_moves_315 4 rfl ?_
                refine g_iload X dL_moves_317 2 rfl ?_
                refine g_iload X dL_moves_319 2 rfl ?_
                refine g_iconst X dL_moves_321 (v := (2 : Int32)) (by decide) ?_
                refine g_idiv X dL_moves_322 (by decide) ?_
                refine g_isub X dL_moves_323 ?_
                refine g_icmp_ge X (tgt := 364) dL_moves_324 (by decide) (fun hc_245 => ?_) (fun hc_245 => ?_)
                · have h := ift hc_245 h
                  cases h
                  exact g_sub [3] rfl K_237
                · have h := iff_ hc_245 h
                  refine g_iload X dL_moves_327 3 rfl ?_
                  refine g_if_eq X (tgt := 364) dL_moves_329 (by decide) (fun hc_246 => ?_) (fun hc_246 => ?_)
                  · have h := ift hc_246 h
                    cases h
                    exact g_sub [3] rfl K_237
                  · have h := iff_ hc_246 h
                    refine g_aload X dL_moves_332 1 rfl ?_
                    refine g_iconst X dL_moves_334 (v := (2 : Int32)) (by decide) ?_
                    refine h_aald X hp_231 (k9 := 2) (by decide) (by decide) (by decide) dL_moves_335 ?_
                    refine g_iload X dL_moves_336 4 rfl ?_
                    obtain ⟨hg_247, h⟩ := grd_some h
                    refine h_gld X (isGr.mk hp_231 (k9 := 2) (by decide)) (k9 := v_234.toNatClampNeg) hg_247 rfl dL_moves_338 ?_
                    refine g_aload X dL_moves_339 0 rfl ?_
                    refine g_iconst X dL_moves_341 (v := (2 : Int32)) (by decide) ?_
                    refine h_aald X hp_229 (k9 := 2) (by decide) (by decide) (by decide) dL_moves_342 ?_
                    refine g_iconst X dL_moves_343 (v := (2 : Int32)) (by decide) ?_
                    refine g_iload X dL_moves_344 4 rfl ?_
                    refine g_imul X dL_moves_346 ?_
                    obtain ⟨hg_248, h⟩ := grd_some h
                    refine h_gld X (isGr.mk hp_229 (k9 := 2) (by decide)) (k9 := ((2 : Int32) * v_234).toNatClampNeg) hg_248 rfl dL_moves_347 ?_
                    obtain ⟨v_250, hj_252, h⟩ := bnd_some h
                    have K_251 : gG p l e rmL_moves s m args below meth c D (cyT cy) B9 14 (lIe (lWf cy A aK B X8) D (cyT cy) B9 below args s r (σ', ρ') 1 6) (lW cy A aK B X8 σ_241 ρ_242) 1 6 356 [(4, .ref (B (1 + c_228))), (6, .ref (B (1 + c_230))), (7, .int c_232), (11, .int v_234)] [.int v_250] := by
                      refine g_istore X dL_moves_356 (by decide) (lv' := [(10, .int v_250), (4, .ref (B (1 + c_228))), (6, .ref (B (1 + c_230))), (7, .int c_232), (11, .int v_234)]) rfl ?_
                      refine g_iinc X dL_moves_358 4 rfl (v := v_234 + (1 : Int32)) rfl (by decide) (lv' := [(11, .int (v_234 + (1 : Int32))), (10, .int v_250), (4, .ref (B (1 + c_228))), (6, .ref (B (1 + c_230))), (7, .int c_232)]) rfl ?_
                      refine g_goto X (tgt := 315) dL_moves_361 (by decide) ?_
                      exact g_sub [2, 3, 4, 1, 0] rfl (ih_236 _ _ _ h K_237)
                    have h := hj_252
                    clear hj_252
                    refine g_icmp_ne X (tgt := 355) dL_moves_348 (by decide) (fun hc_249 => ?_) (fun hc_249 => ?_)
                    · have h := iff_ hc_249 h
                      refine g_iconst X dL_moves_355 (v := (0 : Int32)) (by decide) ?_
                      cases h
                      exact g_sub [0, 1, 2, 4] rfl K_251
                    · have h := ift hc_249 h
                      refine g_iconst X dL_moves_351 (v := (1 : Int32)) (by decide) ?_
                      refine g_goto X (tgt := 356) dL_moves_352 (by decide) ?_
                      cases h
                      exact g_sub [0, 1, 2, 4] rfl K_251
            obtain ⟨o_240, hl_253, h⟩ := bnd_some h
            refine g_sub [2, 3, 4, 1, 0] rfl (L_239 a4 h4 a6 h6 r_2 σ_212 rfl ρ_215 rfl FU v_214 (0 : Int32) o_240 hl_253 ?_)
            refine g_iload X dL_moves_364 0 rfl ?_
            obtain ⟨hg_254, h⟩ := grd_some h
            cases h
            exact g_zret (Wf := (lWf cy A aK B X8)) (u := (_, _)) X (nar01 hg_254) ⟨rfl, rfl⟩ dL_moves_366
          have h := hj_255
          clear hj_255
          refine g_icmp_ne X (tgt := 309) dL_moves_250 (by decide) (fun hc_213 => ?_) (fun hc_213 => ?_)
          · have h := iff_ hc_213 h
            refine g_iconst X dL_moves_309 (v := (0 : Int32)) (by decide) ?_
            cases h
            exact g_sub [2, 4, 5] rfl K_216
          · have h := ift hc_213 h
            refine g_aload_n X dL_moves_253 rfl 0 rfl ?_
            refine g_iload X dL_moves_254 6 rfl ?_
            refine g_aload X dL_moves_256 4 rfl ?_
            obtain ⟨r_218, ρ_219, hf_217, h⟩ := bnd2_some h
            refine h_callI (As := [.ref (A 0), .int (((a2 + (1 : Int32)) + (r_5 - r_5 / (3 : Int32) * (3 : Int32))) - ((a2 + (1 : Int32)) + (r_5 - r_5 / (3 : Int32) * (3 : Int32))) / (4 : Int32) * (4 : Int32)), .ref (B (1 + a6))]) (Wf := lWf cy A aK B X8) (ws9 := (lW cy A aK B X8 σ_212 ρ_219)) X (ZL_ok _ _ _ _ _ _ _ _) (m_L_sees h6 hl hf_217) (va_cwS 3 X.1.2.2.2.2 gZL_moves_L_sees rfl rfl rfl (by decide +kernel) ⟨Nat.le_of_ble_eq_true rfl, Nat.le_of_ble_eq_true rfl⟩) rfl rfl (Nat.le_of_ble_eq_true rfl) ⟨by decide, by decide⟩ dL_moves_258 rfl rfl (k' := 1) (n' := 6) (by decide) (by decide) ?_
            refine g_iload X dL_moves_261 7 rfl ?_
            refine g_iload X dL_moves_263 5 rfl ?_
            refine g_iconst X dL_moves_265 (v := (2 : Int32)) (by decide) ?_
            refine g_idiv X dL_moves_266 (by decide) ?_
            refine g_iadd X dL_moves_267 ?_
            refine g_icmp_ne X (tgt := 309) dL_moves_268 (by decide) (fun hc_220 => ?_) (fun hc_220 => ?_)
            · have h := iff_ hc_220 h
              refine g_iconst X dL_moves_309 (v := (0 : Int32)) (by decide) ?_
              cases h
              exact g_sub [2, 4, 5] rfl K_216
            · have h := ift hc_220 h
              refine g_aload X dL_moves_271 3 rfl ?_
              refine g_aload X dL_moves_273 4 rfl ?_
              refine g_iload X dL_moves_275 7 rfl ?_
              refine g_iload X dL_moves_277 5 rfl ?_
              refine g_iconst X dL_moves_279 (v := (2 : Int32)) (by decide) ?_
              refine g_idiv X dL_moves_280 (by decide) ?_
              refine g_iadd X dL_moves_281 ?_
              obtain ⟨r_222, hf_221, h⟩ := bnd_some h
              refine h_callI (As := [.ref (B (1 + a5)), .ref (B (1 + a6)), .int (r_8 + (r_2 / (2 : Int32)))]) (Wf := lWf cy A aK B X8) (ws9 := (lW cy A aK B X8 σ_212 ρ_219)) X (ZL_ok _ _ _ _ _ _ _ _) (m_L_isLike h5 h6 hf_221) (va_cwS 3 X.1.2.2.2.2 gZL_moves_L_isLike rfl rfl rfl (by decide +kernel) ⟨Nat.le_of_ble_eq_true rfl, Nat.le_of_ble_eq_true rfl⟩) rfl rfl (Nat.le_of_ble_eq_true rfl) ⟨by decide, by decide⟩ dL_moves_282 rfl rfl (k' := 1) (n' := 6) (by decide) (by decide) ?_
              refine g_if_eq X (tgt := 309) dL_moves_285 (by decide) (fun hc_223 => ?_) (fun hc_223 => ?_)
              · have h := ift hc_223 h
                refine g_iconst X dL_moves_309 (v := (0 : Int32)) (by decide) ?_
                cases h
                exact g_sub [2, 4, 5] rfl K_216
              · have h := iff_ hc_223 h
                refine g_aload_n X dL_moves_288 rfl 0 rfl ?_
                refine g_iload_n X dL_moves_289 rfl 1 rfl ?_
                refine g_aload X dL_moves_290 4 rfl ?_
                obtain ⟨r_225, ρ_226, hf_224, h⟩ := bnd2_some h
                refine h_callI (As := [.ref (A 0), .int a2, .ref (B (1 + a6))]) (Wf := lWf cy A aK B X8) (ws9 := (lW cy A aK B X8 σ_212 ρ_226)) X (ZL_ok _ _ _ _ _ _ _ _) (m_L_sees h6 hl hf_224) (va_cwS 3 X.1.2.2.2.2 gZL_moves_L_sees rfl rfl rfl (by decide +kernel) ⟨Nat.le_of_ble_eq_true rfl, Nat.le_of_ble_eq_true rfl⟩) rfl rfl (Nat.le_of_ble_eq_true rfl) ⟨by decide, by decide⟩ dL_moves_292 rfl rfl (k' := 1) (n' := 6) (by decide) (by decide) ?_
                refine g_iload X dL_moves_295 5 rfl ?_
                refine g_iload X dL_moves_297 5 rfl ?_
                refine g_iconst X dL_moves_299 (v := (2 : Int32)) (by decide) ?_
                refine g_idiv X dL_moves_300 (by decide) ?_
                refine g_isub X dL_moves_301 ?_
                refine g_icmp_ne X (tgt := 309) dL_moves_302 (by decide) (fun hc_227 => ?_) (fun hc_227 => ?_)
                · have h := iff_ hc_227 h
                  refine g_iconst X dL_moves_309 (v := (0 : Int32)) (by decide) ?_
                  cases h
                  exact g_sub [2, 4, 5] rfl K_216
                · have h := ift hc_227 h
                  refine g_iconst X dL_moves_305 (v := (1 : Int32)) (by decide) ?_
                  refine g_goto X (tgt := 310) dL_moves_306 (by decide) ?_
                  cases h
                  exact g_sub [2, 4, 5] rfl K_216
        · have h := iff_ hc_185 h
          refine g_aload_n X dL_moves_183 rfl 3 rfl ?_
          refine g_bipush X dL_moves_184 (v := (7 : Int32)) (by decide) ?_
          refine g_iload_n X dL_moves_186 rfl 5 rfl ?_
          refine g_iload X dL_moves_187 1 rfl ?_
          refine g_iconst X dL_moves_189 (v := (0 : Int32)) (by decide) ?_
          obtain ⟨r_257, σ_258, hf_256, h⟩ := bnd2_some h
          refine h_callIT (As := [.ref (A 0), .int (7 : Int32), .int a2, .int (((a2 + (1 : Int32)) + (r_5 - r_5 / (3 : Int32) * (3 : Int32))) - ((a2 + (1 : Int32)) + (r_5 - r_5 / (3 : Int32) * (3 : Int32))) / (4 : Int32) * (4 : Int32)), .int (0 : Int32)]) (Wf := lWf cy A aK B X8) (ws9 := (lW cy A aK B X8 σ_258 ρ_9)) X (ZL_ok _ _ _ _ _ _ _ _) (m_L_done hl hf_256) (vx_cwSW 5 X.1.2.2.2.2 gZL_moves_L_done rfl rfl rfl (by decide +kernel) ⟨Nat.le_of_ble_eq_true rfl, Nat.le_of_ble_eq_true rfl⟩) rfl rfl (Nat.le_of_ble_eq_true rfl) ⟨by decide, by decide⟩ dL_moves_190 rfl rfl (k' := 1) (n' := 6) (by decide) (by decide) ?_
          refine g_bipush X dL_moves_193 (v := (-3 : Int32)) (by decide) ?_
          obtain ⟨v_260, hj_263, h⟩ := bnd_some h
          have K_261 : gG p l e rmL_moves s m args below meth c D (cyT cy) B9 14 (lIe (lWf cy A aK B X8) D (cyT cy) B9 below args s r (σ', ρ') 1 6) (lW cy A aK B X8 σ_258 ρ_9) 1 6 203 [] [.int v_260] := by
            obtain ⟨hg_262, h⟩ := grd_some h
            cases h
            exact g_zret (Wf := (lWf cy A aK B X8)) (u := (_, _)) X (nar01 hg_262) ⟨rfl, rfl⟩ dL_moves_203
          have h := hj_263
          clear hj_263
          refine g_icmp_ne X (tgt := 202) dL_moves_195 (by decide) (fun hc_259 => ?_) (fun hc_259 => ?_)
          · have h := iff_ hc_259 h
            refine g_iconst X dL_moves_202 (v := (0 : Int32)) (by decide) ?_
            cases h
            exact g_sub [] rfl K_261
          · have h := ift hc_259 h
            refine g_iconst X dL_moves_198 (v := (1 : Int32)) (by decide) ?_
            refine g_goto X (tgt := 203) dL_moves_199 (by decide) ?_
            cases h
            exact g_sub [] rfl K_261
    · have h := ift hc_10 h
      refine g_iload X dL_moves_39 2 rfl ?_
      refine g_iload X dL_moves_41 0 rfl ?_
      refine g_iadd X dL_moves_43 ?_
      refine g_sipush X dL_moves_44 (v := (800 : Int32)) (by decide) ?_
      refine g_icmp_le X (tgt := 71) dL_moves_47 (by decide) (fun hc_264 => ?_) (fun hc_264 => ?_)
      · have h := ift hc_264 h
        refine g_iconst X dL_moves_71 (v := (0 : Int32)) (by decide) ?_
        refine g_istore X dL_moves_72 (by decide) (lv' := [(10, .int (0 : Int32)), (9, .int r_8), (8, .int (((a2 + (1 : Int32)) + (r_5 - r_5 / (3 : Int32) * (3 : Int32))) - ((a2 + (1 : Int32)) + (r_5 - r_5 / (3 : Int32) * (3 : Int32))) / (4 : Int32) * (4 : Int32))), (7, .int r_2), (0, .ref (A 0)), (1, .ref (B 0)), (2, .int a2), (3, .int a3), (4, .ref (B (1 + a4))), (5, .ref (B (1 + a5))), (6, .ref (B (1 + a6)))]) rfl ?_
        have L_281 : ∀ (c_265 : Int32) (c_266 : Nat) (hp_267 : c_266 < 3) (c_268 : Nat) (hp_269 : c_268 < 3) (c_270 : Nat) (hp_271 : c_270 < 3) (c_272 : Int32) (c_273 : Int32) (c_274 : Int32) (σ_283 : St) (hz_284 : σ_283 = σ) (n_277 : Nat) (v_275 : Int32) (ρ_276 : St) (ρ_282 : St), f_L_moves_L74 c_266 c_268 c_272 c_274 n_277 v_275 ρ_276 = some (ρ_282) → gG p l e rmL_moves s m args below meth c D (cyT cy) B9 14 (lIe (lWf cy A aK B X8) D (cyT cy) B9 below args s r (σ', ρ') 1 6) (lW cy A aK B X8 σ_283 ρ_282) 0 0 101 [(0, .ref (A 0)), (2, .int c_265), (5, .ref (B (1 + c_268))), (6, .ref (B (1 + c_270))), (7, .int c_272), (8, .int c_273), (9, .int c_274)] [] → gG p l e rmL_moves s m args below meth c D (cyT cy) B9 14 (lIe (lWf cy A aK B X8) D (cyT cy) B9 below args s r (σ', ρ') 1 6) (lW cy A aK B X8 σ_283 ρ_276) 0 0 74 [(0, .ref (A 0)), (2, .int c_265), (4, .ref (B (1 + c_266))), (5, .ref (B (1 + c_268))), (6, .ref (B (1 + c_270))), (7, .int c_272), (8, .int c_273), (9, .int c_274), (10, .int v_275)] [] := by
          intro c_265 c_266 hp_267 c_268 hp_269 c_270 hp_271 c_272 c_273 c_274 σ_283 hz_284 n_277
          induction n_277 with
          | zero =>
            intro v_275 ρ_276 ρ_282 h K_279
            rw [f_L_moves_L74] at h
            cases h
          | succ n_277 ih_278 =>
            intro v_275 ρ_276 ρ_282 h K_279
            rw [f_L_moves_L74] at h
            refine g_iload X dL_moves_74 8 rfl ?_
            refine g_iload X dL_moves_76 5 rfl ?_
            refine g_icmp_ge X (tgt := 101) dL_moves_78 (by decide) (fun hc_285 => ?_) (fun hc_285 => ?_)
            · have h := ift hc_285 h
              cases h
              exact g_sub [0, 1, 3, 4, 5, 6, 7] rfl K_279
            · have h := iff_ hc_285 h
              refine g_aload X dL_moves_81 2 rfl ?_
              refine g_iload X dL_moves_83 8 rfl ?_
              refine g_aload X dL_moves_85 3 rfl ?_
              refine g_iload X dL_moves_87 7 rfl ?_
              refine g_iload X dL_moves_89 8 rfl ?_
              refine g_iadd X dL_moves_91 ?_
              obtain ⟨ρ_287, hf_286, h⟩ := bnd_some h
              refine h_callV (As := [.ref (B (1 + c_266)), .int v_275, .ref (B (1 + c_268)), .int (c_274 + v_275)]) (Wf := lWf cy A aK B X8) (ws9 := (lW cy A aK B X8 σ_283 ρ_287)) X (ZL_ok _ _ _ _ _ _ _ _) (m_L_copies hp_267 hp_269 hf_286) (va_cwS 4 X.1.2.2.2.2 gZL_moves_L_copies rfl rfl rfl (by decide +kernel) ⟨Nat.le_of_ble_eq_true rfl, Nat.le_of_ble_eq_true rfl⟩) rfl rfl (Nat.le_of_ble_eq_true rfl) ⟨by decide, by decide⟩ dL_moves_92 rfl rfl (k' := 0) (n' := 0) (by decide) (by decide) ?_
              refine g_iinc X dL_moves_95 8 rfl (v := v_275 + (1 : Int32)) rfl (by decide) (lv' := [(10, .int (v_275 + (1 : Int32))), (0, .ref (A 0)), (2, .int c_265), (4, .ref (B (1 + c_266))), (5, .ref (B (1 + c_268))), (6, .ref (B (1 + c_270))), (7, .int c_272), (8, .int c_273), (9, .int c_274)]) rfl ?_
              refine g_goto X (tgt := 74) dL_moves_98 (by decide) ?_
              exact g_sub [1, 2, 3, 4, 5, 6, 7, 8, 0] rfl (ih_278 _ _ _ h K_279)
        obtain ⟨ρ_282, hl_288, h⟩ := bnd_some h
        refine g_sub [4, 6, 8, 9, 10, 3, 2, 1, 0] rfl (L_281 a2 a4 h4 a5 h5 a6 h6 r_2 (((a2 + (1 : Int32)) + (r_5 - r_5 / (3 : Int32) * (3 : Int32))) - ((a2 + (1 : Int32)) + (r_5 - r_5 / (3 : Int32) * (3 : Int32))) / (4 : Int32) * (4 : Int32)) r_8 σ rfl FU (0 : Int32) ρ_9 ρ_282 hl_288 ?_)
        refine g_aload_n X dL_moves_101 rfl 0 rfl ?_
        refine g_bipush X dL_moves_102 (v := (6 : Int32)) (by decide) ?_
        refine g_iload_n X dL_moves_104 rfl 1 rfl ?_
        refine g_iload X dL_moves_105 5 rfl ?_
        refine g_iconst X dL_moves_107 (v := (0 : Int32)) (by decide) ?_
        obtain ⟨r_290, σ_291, hf_289, h⟩ := bnd2_some h
        refine h_callIT (As := [.ref (A 0), .int (6 : Int32), .int a2, .int (((a2 + (1 : Int32)) + (r_5 - r_5 / (3 : Int32) * (3 : Int32))) - ((a2 + (1 : Int32)) + (r_5 - r_5 / (3 : Int32) * (3 : Int32))) / (4 : Int32) * (4 : Int32)), .int (0 : Int32)]) (Wf := lWf cy A aK B X8) (ws9 := (lW cy A aK B X8 σ_291 ρ_282)) X (ZL_ok _ _ _ _ _ _ _ _) (m_L_done hl hf_289) (vx_cwSW 5 X.1.2.2.2.2 gZL_moves_L_done rfl rfl rfl (by decide +kernel) ⟨Nat.le_of_ble_eq_true rfl, Nat.le_of_ble_eq_true rfl⟩) rfl rfl (Nat.le_of_ble_eq_true rfl) ⟨by decide, by decide⟩ dL_moves_108 rfl rfl (k' := 1) (n' := 6) (by decide) (by decide) ?_
        refine g_iload X dL_moves_111 4 rfl ?_
        refine g_iload X dL_moves_113 6 rfl ?_
        refine g_iadd X dL_moves_115 ?_
        obtain ⟨v_293, ρ_294, hj_307, h⟩ := bnd2_some h
        have K_295 : gG p l e rmL_moves s m args below meth c D (cyT cy) B9 14 (lIe (lWf cy A aK B X8) D (cyT cy) B9 below args s r (σ', ρ') 1 6) (lW cy A aK B X8 σ_291 ρ_294) 1 6 163 [] [.int v_293] := by
          obtain ⟨hg_306, h⟩ := grd_some h
          cases h
          exact g_zret (Wf := (lWf cy A aK B X8)) (u := (_, _)) X (nar01 hg_306) ⟨rfl, rfl⟩ dL_moves_163
        have h := hj_307
        clear hj_307
        refine g_icmp_ne X (tgt := 162) dL_moves_116 (by decide) (fun hc_292 => ?_) (fun hc_292 => ?_)
        · have h := iff_ hc_292 h
          refine g_iconst X dL_moves_162 (v := (0 : Int32)) (by decide) ?_
          cases h
          exact g_sub [] rfl K_295
        · have h := ift hc_292 h
          refine g_aload_n X dL_moves_119 rfl 0 rfl ?_
          refine g_iload_n X dL_moves_120 rfl 1 rfl ?_
          obtain ⟨r_297, hf_296, h⟩ := bndQ_some h
          refine g_xVI_ret (AD := A) (As := [.int a2]) X (ZL_ok _ _ _ _ _ _ _ _) (xI_up (m_X10_count hl hf_296)) (cwV 1 X.1.2.2.2.2 gZL_moves_X10_count rfl rfl rfl (by decide +kernel) ⟨Nat.le_of_ble_eq_true rfl, Nat.le_of_ble_eq_true rfl⟩) rfl cm0 (cE_0 cy A aK σ_291) rfl rfl (Nat.le_of_ble_eq_true rfl) ⟨Nat.le_of_ble_eq_true rfl, Nat.le_of_ble_eq_true rfl⟩ dL_moves_121 (k' := 1) (n' := 6) (thrC_k _ _) (thrS_k _ _) ?_
          refine g_if_ne X (tgt := 162) dL_moves_124 (by decide) (fun hc_298 => ?_) (fun hc_298 => ?_)
          · have h := iff_ hc_298 h
            refine g_iconst X dL_moves_162 (v := (0 : Int32)) (by decide) ?_
            cases h
            exact g_sub [] rfl K_295
          · have h := ift hc_298 h
            refine g_aload_n X dL_moves_127 rfl 0 rfl ?_
            refine g_iload X dL_moves_128 5 rfl ?_
            refine g_aload X dL_moves_130 3 rfl ?_
            obtain ⟨r_300, ρ_301, hf_299, h⟩ := bnd2_some h
            refine h_callI (As := [.ref (A 0), .int (((a2 + (1 : Int32)) + (r_5 - r_5 / (3 : Int32) * (3 : Int32))) - ((a2 + (1 : Int32)) + (r_5 - r_5 / (3 : Int32) * (3 : Int32))) / (4 : Int32) * (4 : Int32)), .ref (B (1 + a6))]) (Wf := lWf cy A aK B X8) (ws9 := (lW cy A aK B X8 σ_291 ρ_301)) X (ZL_ok _ _ _ _ _ _ _ _) (m_L_sees h6 hl hf_299) (va_cwS 3 X.1.2.2.2.2 gZL_moves_L_sees rfl rfl rfl (by decide +kernel) ⟨Nat.le_of_ble_eq_true rfl, Nat.le_of_ble_eq_true rfl⟩) rfl rfl (Nat.le_of_ble_eq_true rfl) ⟨by decide, by decide⟩ dL_moves_132 rfl rfl (k' := 1) (n' := 6) (by decide) (by decide) ?_
            refine g_iload X dL_moves_135 4 rfl ?_
            refine g_iload X dL_moves_137 6 rfl ?_
            refine g_iadd X dL_moves_139 ?_
            refine g_icmp_ne X (tgt := 162) dL_moves_140 (by decide) (fun hc_302 => ?_) (fun hc_302 => ?_)
            · have h := iff_ hc_302 h
              refine g_iconst X dL_moves_162 (v := (0 : Int32)) (by decide) ?_
              cases h
              exact g_sub [] rfl K_295
            · have h := ift hc_302 h
              refine g_aload X dL_moves_143 2 rfl ?_
              refine g_aload X dL_moves_145 3 rfl ?_
              refine g_iload X dL_moves_147 4 rfl ?_
              refine g_iload X dL_moves_149 6 rfl ?_
              refine g_iadd X dL_moves_151 ?_
              obtain ⟨r_304, hf_303, h⟩ := bnd_some h
              refine h_callI (As := [.ref (B (1 + a5)), .ref (B (1 + a6)), .int (r_2 + r_8)]) (Wf := lWf cy A aK B X8) (ws9 := (lW cy A aK B X8 σ_291 ρ_301)) X (ZL_ok _ _ _ _ _ _ _ _) (m_L_isLike h5 h6 hf_303) (va_cwS 3 X.1.2.2.2.2 gZL_moves_L_isLike rfl rfl rfl (by decide +kernel) ⟨Nat.le_of_ble_eq_true rfl, Nat.le_of_ble_eq_true rfl⟩) rfl rfl (Nat.le_of_ble_eq_true rfl) ⟨by decide, by decide⟩ dL_moves_152 rfl rfl (k' := 1) (n' := 6) (by decide) (by decide) ?_
              refine g_if_eq X (tgt := 162) dL_moves_155 (by decide) (fun hc_305 => ?_) (fun hc_305 => ?_)
              · have h := ift hc_305 h
                refine g_iconst X dL_moves_162 (v := (0 : Int32)) (by decide) ?_
                cases h
                exact g_sub [] rfl K_295
              · have h := iff_ hc_305 h
                refine g_iconst X dL_moves_158 (v := (1 : Int32)) (by decide) ?_
                refine g_goto X (tgt := 163) dL_moves_159 (by decide) ?_
                cases h
                exact g_sub [] rfl K_295
      · have h := iff_ hc_264 h
        refine g_aload_n X dL_moves_50 rfl 3 rfl ?_
        refine g_bipush X dL_moves_51 (v := (6 : Int32)) (by decide) ?_
        refine g_iload_n X dL_moves_53 rfl 5 rfl ?_
        refine g_iload X dL_moves_54 1 rfl ?_
        refine g_iconst X dL_moves_56 (v := (0 : Int32)) (by decide) ?_
        obtain ⟨r_309, σ_310, hf_308, h⟩ := bnd2_some h
        refine h_callIT (As := [.ref (A 0), .int (6 : Int32), .int a2, .int (((a2 + (1 : Int32)) + (r_5 - r_5 / (3 : Int32) * (3 : Int32))) - ((a2 + (1 : Int32)) + (r_5 - r_5 / (3 : Int32) * (3 : Int32))) / (4 : Int32) * (4 : Int32)), .int (0 : Int32)]) (Wf := lWf cy A aK B X8) (ws9 := (lW cy A aK B X8 σ_310 ρ_9)) X (ZL_ok _ _ _ _ _ _ _ _) (m_L_done hl hf_308) (vx_cwSW 5 X.1.2.2.2.2 gZL_moves_L_done rfl rfl rfl (by decide +kernel) ⟨Nat.le_of_ble_eq_true rfl, Nat.le_of_ble_eq_true rfl⟩) rfl rfl (Nat.le_of_ble_eq_true rfl) ⟨by decide, by decide⟩ dL_moves_57 rfl rfl (k' := 1) (n' := 6) (by decide) (by decide) ?_
        refine g_bipush X dL_moves_60 (v := (-3 : Int32)) (by decide) ?_
        obtain ⟨v_312, hj_315, h⟩ := bnd_some h
        have K_313 : gG p l e rmL_moves s m args below meth c D (cyT cy) B9 14 (lIe (lWf cy A aK B X8) D (cyT cy) B9 below args s r (σ', ρ') 1 6) (lW cy A aK B X8 σ_310 ρ_9) 1 6 70 [] [.int v_312] := by
          obtain ⟨hg_314, h⟩ := grd_some h
          cases h
          exact g_zret (Wf := (lWf cy A aK B X8)) (u := (_, _)) X (nar01 hg_314) ⟨rfl, rfl⟩ dL_moves_70
        have h := hj_315
        clear hj_315
        refine g_icmp_ne X (tgt := 69) dL_moves_62 (by decide) (fun hc_311 => ?_) (fun hc_311 => ?_)
        · have h := iff_ hc_311 h
          refine g_iconst X dL_moves_69 (v := (0 : Int32)) (by decide) ?_
          cases h
          exact g_sub [] rfl K_313
        · have h := ift hc_311 h
          refine g_iconst X dL_moves_65 (v := (1 : Int32)) (by decide) ?_
          refine g_goto X (tgt := 70) dL_moves_66 (by decide) ?_
          cases h
          exact g_sub [] rfl K_313
  exact K0
end LV
