section LV
variable {D : va_G} {cy : Nat → ClassId} {A aK aO aS aV aT bS bV dA B : Nat → Nat} {l : Launch} {X8 : va_W}
set_option maxHeartbeats 16000000 in
set_option maxRecDepth 100000 in
theorem m_L_sortsAll {σ ρ : St} {a1 : Nat} {a2 : Nat} {a3 : Nat} {r : Int32} {σ' : St} {ρ' : St} (h1 : a1 < 3) (h2 : a2 < 3) (h3 : a3 < 3) (hl : l.stackTraces = false) (h : f_L_sortsAll a1 a2 a3 σ ρ = some (r, σ', ρ')) : wI (ZL aK aO aS aV aT bS bV dA) D (cyT cy) l yL_sortsAll wsL_sortsAll rmL_sortsAll (lWf cy A aK B X8) [.ref (A 0), .ref (B (1 + a1)), .ref (B (1 + a2)), .ref (B (1 + a3)), .ref (B 13)] (σ, ρ) r (σ', ρ') 1 6 := by
  unfold f_L_sortsAll at h
  refine wI_of (cc := cL_sortsAll) (maxL := 11) (ret := (some .boolean)) (by decide) rfl (Nat.le_of_ble_eq_true rfl) (fun p e s m args below meth c B9 X => ?_)
  have K0 : gG p l e rmL_sortsAll s m args below meth c D (cyT cy) B9 11 (lIe (lWf cy A aK B X8) D (cyT cy) B9 below args s r (σ', ρ') 1 6) (lW cy A aK B X8 σ ρ) 0 0 0 [(0, .ref (A 0)), (1, .ref (B (1 + a1))), (2, .ref (B (1 + a2))), (3, .ref (B (1 + a3))), (4, .ref (B 13))] [] := by
    refine g_iconst X dL_sortsAll_0 (v := (0 : Int32)) (by decide) ?_
    refine g_istore X dL_sortsAll_1 (by decide) (lv' := [(5, .int (0 : Int32)), (0, .ref (A 0)), (1, .ref (B (1 + a1))), (2, .ref (B (1 + a2))), (3, .ref (B (1 + a3))), (4, .ref (B 13))]) rfl ?_
    refine g_iconst X dL_sortsAll_3 (v := (4 : Int32)) (by decide) ?_
    refine h_newMany X (by decide +kernel) (by decide) (by decide) ⟨by decide, by decide⟩ dL_sortsAll_4 (fun qm => ?_)
    refine g_astore X dL_sortsAll_6 (by decide) (lv' := [(6, .ref qm), (5, .int (0 : Int32)), (0, .ref (A 0)), (1, .ref (B (1 + a1))), (2, .ref (B (1 + a2))), (3, .ref (B (1 + a3))), (4, .ref (B 13))]) rfl ?_
    refine g_iconst X dL_sortsAll_8 (v := (0 : Int32)) (by decide) ?_
    refine g_istore X dL_sortsAll_9 (by decide) (lv' := [(7, .int (0 : Int32)), (6, .ref qm), (5, .int (0 : Int32)), (0, .ref (A 0)), (1, .ref (B (1 + a1))), (2, .ref (B (1 + a2))), (3, .ref (B (1 + a3))), (4, .ref (B 13))]) rfl ?_
    have L_15 : ∀ (c_1 : Nat) (hp_2 : c_1 < 3) (c_3 : Nat) (hp_4 : c_3 < 3) (c_5 : Nat) (hp_6 : c_5 < 3) (σ_19 : St) (hz_20 : σ_19 = σ) (n_11 : Nat) (v_7 : Int32) (v_8 : Int32) (ρ_9 : St) (μ_10 : (Nat → Int32)) (o_18 : Int32) (ρ_16 : St) (μ_17 : (Nat → Int32)), f_L_sortsAll_L11 c_1 c_5 σ_19 n_11 v_7 v_8 ρ_9 μ_10 = some (o_18, ρ_16, μ_17) → gG p l e rmL_sortsAll s m args below meth c D (cyT cy) B9 11 (lIe (lWf cy A aK B X8) D (cyT cy) B9 below args s r (σ', ρ') 1 6) (lW cy A aK B ((qm, .inl (cy 0, 4, .inl μ_17)) :: X8) σ_19 ρ_16) 1 6 76 [(0, .ref (A 0)), (1, .ref (B (1 + c_1))), (2, .ref (B (1 + c_3))), (3, .ref (B (1 + c_5))), (4, .ref (B 13)), (5, .int o_18), (6, .ref qm)] [] → gG p l e rmL_sortsAll s m args below meth c D (cyT cy) B9 11 (lIe (lWf cy A aK B X8) D (cyT cy) B9 below args s r (σ', ρ') 1 6) (lW cy A aK B ((qm, .inl (cy 0, 4, .inl μ_10)) :: X8) σ_19 ρ_9) 1 6 11 [(0, .ref (A 0)), (1, .ref (B (1 + c_1))), (2, .ref (B (1 + c_3))), (3, .ref (B (1 + c_5))), (4, .ref (B 13)), (5, .int v_7), (6, .ref qm), (7, .int v_8)] [] := by
      intro c_1 hp_2 c_3 hp_4 c_5 hp_6 σ_19 hz_20 n_11
      induction n_11 with
      | zero =>
        intro v_7 v_8 ρ_9 μ_10 o_18 ρ_16 μ_17 h K_13
        rw [f_L_sortsAll_L11] at h
        cases h
      | succ n_11 ih_12 =>
        intro v_7 v_8 ρ_9 μ_10 o_18 ρ_16 μ_17 h K_13
        rw [f_L_sortsAll_L11] at h
        refine g_iload X dL_sortsAll_11 7 rfl ?_
        refine g_iconst X dL_sortsAll_13 (v := (4 : Int32)) (by decide) ?_
        refine g_icmp_ge X (tgt := 76) dL_sortsAll_14 (by decide) (fun hc_21 => ?_) (fun hc_21 => ?_)
        · have h := ift hc_21 h
          cases h
          exact g_sub [0, 1, 2, 3, 4, 5, 6] rfl K_13
        · have h := iff_ hc_21 h
          refine g_aload X dL_sortsAll_17 6 rfl ?_
          refine g_iload X dL_sortsAll_19 7 rfl ?_
          refine g_aload_n X dL_sortsAll_21 rfl 0 rfl ?_
          refine g_iload X dL_sortsAll_22 7 rfl ?_
          refine g_aload_n X dL_sortsAll_24 rfl 3 rfl ?_
          obtain ⟨r_23, ρ_24, hf_22, h⟩ := bnd2_some h
          refine h_callI (As := [.ref (A 0), .int v_8, .ref (B (1 + c_5))]) (Wf := lWf cy A aK B ((qm, .inl (cy 0, 4, .inl μ_10)) :: X8)) (ws9 := (lW cy A aK B ((qm, .inl (cy 0, 4, .inl μ_10)) :: X8) σ_19 ρ_24)) X (ZL_ok _ _ _ _ _ _ _ _) (m_L_sees hp_6 hl hf_22) (va_cwS 3 X.1.2.2.2.2 gL_sortsAll_L_sees rfl rfl rfl (by decide +kernel) ⟨Nat.le_of_ble_eq_true rfl, Nat.le_of_ble_eq_true rfl⟩) rfl rfl (Nat.le_of_ble_eq_true rfl) ⟨by decide, by decide⟩ dL_sortsAll_25 rfl rfl (k' := 1) (n' := 6) (by decide) (by decide) ?_
          obtain ⟨hg_25, h⟩ := grd_some h
          refine h_mst X (k9 := v_8.toNatClampNeg) hg_25 rfl dL_sortsAll_28 ?_
          refine g_iconst X dL_sortsAll_29 (v := (0 : Int32)) (by decide) ?_
          refine g_istore X dL_sortsAll_30 (by decide) (lv' := [(8, .int (0 : Int32)), (0, .ref (A 0)), (1, .ref (B (1 + c_1))), (2, .ref (B (1 + c_3))), (3, .ref (B (1 + c_5))), (4, .ref (B 13)), (5, .int v_7), (6, .ref qm), (7, .int v_8)]) rfl ?_
          have L_40 : ∀ (c_26 : Nat) (hp_27 : c_26 < 3) (c_28 : Nat) (hp_29 : c_28 < 3) (c_30 : Nat) (hp_31 : c_30 < 3) (c_32 : Int32) (c_33 : Int32) (σ_42 : St) (hz_44 : σ_42 = σ_19) (μ_43 : (Nat → Int32)) (hz_45 : μ_43 = upd μ_10 v_8.toNatClampNeg r_23) (n_36 : Nat) (v_34 : Int32) (ρ_35 : St) (ρ_41 : St), f_L_sortsAll_L32 c_26 c_30 c_32 c_33 μ_43 n_36 v_34 ρ_35 = some (ρ_41) → gG p l e rmL_sortsAll s m args below meth c D (cyT cy) B9 11 (lIe (lWf cy A aK B X8) D (cyT cy) B9 below args s r (σ', ρ') 1 6) (lW cy A aK B ((qm, .inl (cy 0, 4, .inl μ_43)) :: X8) σ_42 ρ_41) 1 6 60 [(0, .ref (A 0)), (1, .ref (B (1 + c_26))), (2, .ref (B (1 + c_28))), (3, .ref (B (1 + c_30))), (4, .ref (B 13)), (5, .int c_32), (6, .ref qm), (7, .int c_33)] [] → gG p l e rmL_sortsAll s m args below meth c D (cyT cy) B9 11 (lIe (lWf cy A aK B X8) D (cyT cy) B9 below args s r (σ', ρ') 1 6) (lW cy A aK B ((qm, .inl (cy 0, 4, .inl μ_43)) :: X8) σ_42 ρ_35) 1 6 32 [(0, .ref (A 0)), (1, .ref (B (1 + c_26))), (2, .ref (B (1 + c_28))), (3, .ref (B (1 + c_30))), (4, .ref (B 13)), (5, .int c_32), (6, .ref qm), (7, .int c_33), (8, .int v_34)] [] := by
            intro c_26 hp_27 c_28 hp_29 c_30 hp_31 c_32 c_33 σ_42 hz_44 μ_43 hz_45 n_36
            induction n_36 with
            | zero =>
              intro v_34 ρ_35 ρ_41 h K_38
              rw [f_L_sortsAll_L32] at h
              cases h
            | succ n_36 ih_37 =>
              intro v_34 ρ_35 ρ_41 h K_38
              rw [f_L_sortsAll_L32] at h
              refine g_iload X dL_sortsAll_32 8 rfl ?_
              refine g_aload X dL_sortsAll_34 6 rfl ?_
              refine g_iload X dL_sortsAll_36 7 rfl ?_
              obtain ⟨hg_46, h⟩ := grd_some h
              refine h_mld X (k9 := c_33.toNatClampNeg) hg_46 rfl dL_sortsAll_38 ?_
              refine g_icmp_ge X (tgt := 60) dL_sortsAll_39 (by decide) (fun hc_47 => ?_) (fun hc_47 => ?_)
              · have h := ift hc_47 h
                cases h
                exact g_sub [0, 1, 2, 3, 4, 5, 6, 7] rfl K_38
              · have h := iff_ hc_47 h
                refine g_aload_n X dL_sortsAll_42 rfl 3 rfl ?_
                refine g_iload X dL_sortsAll_43 8 rfl ?_
                refine g_aload_n X dL_sortsAll_45 rfl 1 rfl ?_
                refine g_iload X dL_sortsAll_46 5 rfl ?_
                refine g_iload X dL_sortsAll_48 8 rfl ?_
                refine g_iadd X dL_sortsAll_50 ?_
                obtain ⟨ρ_49, hf_48, h⟩ := bnd_some h
                refine h_callV (As := [.ref (B (1 + c_30)), .int v_34, .ref (B (1 + c_26)), .int (c_32 + v_34)]) (Wf := lWf cy A aK B ((qm, .inl (cy 0, 4, .inl μ_43)) :: X8)) (ws9 := (lW cy A aK B ((qm, .inl (cy 0, 4, .inl μ_43)) :: X8) σ_42 ρ_49)) X (ZL_ok _ _ _ _ _ _ _ _) (m_L_copies hp_31 hp_27 hf_48) (va_cwS 4 X.1.2.2.2.2 gL_sortsAll_L_copies rfl rfl rfl (by decide +kernel) ⟨Nat.le_of_ble_eq_true rfl, Nat.le_of_ble_eq_true rfl⟩) rfl rfl (Nat.le_of_ble_eq_true rfl) ⟨by decide, by decide⟩ dL_sortsAll_51 rfl rfl (k' := 1) (n' := 6) (by decide) (by decide) ?_
                refine g_iinc X dL_sortsAll_54 8 rfl (v := v_34 + (1 : Int32)) rfl (by decide) (lv' := [(8, .int (v_34 + (1 : Int32))), (0, .ref (A 0)), (1, .ref (B (1 + c_26))), (2, .ref (B (1 + c_28))), (3, .ref (B (1 + c_30))), (4, .ref (B 13)), (5, .int c_32), (6, .ref qm), (7, .int c_33)]) rfl ?_
                refine g_goto X (tgt := 32) dL_sortsAll_57 (by decide) ?_
                exact g_sub [1, 2, 3, 4, 5, 6, 7, 8, 0] rfl (ih_37 _ _ _ h K_38)
          obtain ⟨ρ_41, hl_50, h⟩ := bnd_some h
          refine g_sub [1, 2, 3, 4, 5, 6, 7, 8, 0] rfl (L_40 c_1 hp_2 c_3 hp_4 c_5 hp_6 v_7 v_8 σ_19 rfl (upd μ_10 v_8.toNatClampNeg r_23) rfl FU (0 : Int32) ρ_24 ρ_41 hl_50 ?_)
          refine g_iload X dL_sortsAll_60 5 rfl ?_
          refine g_aload X dL_sortsAll_62 6 rfl ?_
          refine g_iload X dL_sortsAll_64 7 rfl ?_
          obtain ⟨hg_51, h⟩ := grd_some h
          refine h_mld X (k9 := v_8.toNatClampNeg) hg_51 rfl dL_sortsAll_66 ?_
          refine g_iadd X dL_sortsAll_67 ?_
          refine g_istore X dL_sortsAll_68 (by decide) (lv' := [(5, .int (v_7 + ((upd μ_10 v_8.toNatClampNeg r_23) v_8.toNatClampNeg))), (0, .ref (A 0)), (1, .ref (B (1 + c_1))), (2, .ref (B (1 + c_3))), (3, .ref (B (1 + c_5))), (4, .ref (B 13)), (6, .ref qm), (7, .int v_8)]) rfl ?_
          refine g_iinc X dL_sortsAll_70 7 rfl (v := v_8 + (1 : Int32)) rfl (by decide) (lv' := [(7, .int (v_8 + (1 : Int32))), (5, .int (v_7 + ((upd μ_10 v_8.toNatClampNeg r_23) v_8.toNatClampNeg))), (0, .ref (A 0)), (1, .ref (B (1 + c_1))), (2, .ref (B (1 + c_3))), (3, .ref (B (1 + c_5))), (4, .ref (B 13)), (6, .ref qm)]) rfl ?_
          refine g_goto X (tgt := 11) dL_sortsAll_73 (by decide) ?_
          exact g_sub [2, 3, 4, 5, 6, 1, 7, 0] rfl (ih_12 _ _ _ _ _ _ _ h K_13)
    obtain ⟨o_18, ρ_16, μ_17, hl_52, h⟩ := bnd3_some h
    refine g_sub [3, 4, 5, 6, 7, 2, 1, 0] rfl (L_15 a1 h1 a2 h2 a3 h3 σ rfl FU (0 : Int32) (0 : Int32) ρ (fun _ => (0 : Int32)) o_18 ρ_16 μ_17 hl_52 ?_)
    refine g_aload_n X dL_sortsAll_76 rfl 1 rfl ?_
    refine g_iconst X dL_sortsAll_77 (v := (0 : Int32)) (by decide) ?_
    refine g_iload X dL_sortsAll_78 5 rfl ?_
    refine g_iconst X dL_sortsAll_80 (v := (0 : Int32)) (by decide) ?_
    refine g_aload_n X dL_sortsAll_81 rfl 2 rfl ?_
    refine g_aload X dL_sortsAll_82 4 rfl ?_
    obtain ⟨r_54, ρ_55, hf_53, h⟩ := bnd2_some h
    refine h_callI (As := [.ref (B (1 + a1)), .int (0 : Int32), .int o_18, .int (0 : Int32), .ref (B (1 + a2)), .ref (B 13)]) (Wf := lWf cy A aK B ((qm, .inl (cy 0, 4, .inl μ_17)) :: X8)) (ws9 := (lW cy A aK B ((qm, .inl (cy 0, 4, .inl μ_17)) :: X8) σ ρ_55)) X (ZL_ok _ _ _ _ _ _ _ _) (m_L_due h1 h2 hf_53) (va_cwS 6 X.1.2.2.2.2 gL_sortsAll_L_due rfl rfl rfl (by decide +kernel) ⟨Nat.le_of_ble_eq_true rfl, Nat.le_of_ble_eq_true rfl⟩) rfl rfl (Nat.le_of_ble_eq_true rfl) ⟨by decide, by decide⟩ dL_sortsAll_84 rfl rfl (k' := 1) (n' := 6) (by decide) (by decide) ?_
    refine g_istore X dL_sortsAll_87 (by decide) (lv' := [(7, .int r_54), (0, .ref (A 0)), (1, .ref (B (1 + a1))), (2, .ref (B (1 + a2))), (3, .ref (B (1 + a3))), (4, .ref (B 13)), (5, .int o_18), (6, .ref qm)]) rfl ?_
    refine g_aload_n X dL_sortsAll_89 rfl 1 rfl ?_
    obtain ⟨r_57, σ_58, hf_56, h⟩ := bnd2_some h
    refine g_callVI (AD := A) (As := []) X (ZL_ok _ _ _ _ _ _ _ _) (mI_up (m_X10_sortAll hf_56)) (cwV 0 X.1.2.2.2.2 gL_sortsAll_X10_sortAll rfl rfl rfl (by decide +kernel) ⟨Nat.le_of_ble_eq_true rfl, Nat.le_of_ble_eq_true rfl⟩) rfl cm0 (cE_0 cy A aK σ) rfl rfl (Nat.le_of_ble_eq_true rfl) ⟨by decide, by decide⟩ dL_sortsAll_90 ?_
    refine g_iload X dL_sortsAll_93 0 rfl ?_
    obtain ⟨v_60, hj_133, h⟩ := bnd_some h
    have K_61 : gG p l e rmL_sortsAll s m args below meth c D (cyT cy) B9 11 (lIe (lWf cy A aK B X8) D (cyT cy) B9 below args s r (σ', ρ') 1 6) (lW cy A aK B ((qm, .inl (cy 0, 4, .inl μ_17)) :: X8) σ_58 ρ_55) 1 6 103 [(0, .ref (A 0)), (2, .ref (B (1 + a2))), (3, .ref (B (1 + a3))), (6, .ref qm)] [.int v_60] := by
      refine g_istore X dL_sortsAll_103 (by decide) (lv' := [(8, .int v_60), (0, .ref (A 0)), (2, .ref (B (1 + a2))), (3, .ref (B (1 + a3))), (6, .ref qm)]) rfl ?_
      refine g_iconst X dL_sortsAll_105 (v := (0 : Int32)) (by decide) ?_
      refine g_istore X dL_sortsAll_106 (by decide) (lv' := [(5, .int (0 : Int32)), (8, .int v_60), (0, .ref (A 0)), (2, .ref (B (1 + a2))), (3, .ref (B (1 + a3))), (6, .ref qm)]) rfl ?_
      refine g_iconst X dL_sortsAll_108 (v := (0 : Int32)) (by decide) ?_
      refine g_istore X dL_sortsAll_109 (by decide) (lv' := [(9, .int (0 : Int32)), (5, .int (0 : Int32)), (8, .int v_60), (0, .ref (A 0)), (2, .ref (B (1 + a2))), (3, .ref (B (1 + a3))), (6, .ref qm)]) rfl ?_
      have L_74 : ∀ (c_62 : Nat) (hp_63 : c_62 < 3) (c_64 : Nat) (hp_65 : c_64 < 3) (σ_77 : St) (hz_79 : σ_77 = σ_58) (μ_78 : (Nat → Int32)) (hz_80 : μ_78 = μ_17) (n_70 : Nat) (v_66 : Int32) (v_67 : Int32) (v_68 : Int32) (ρ_69 : St) (o_76 : Int32) (ρ_75 : St), f_L_sortsAll_L111 c_62 c_64 σ_77 μ_78 n_70 v_66 v_67 v_68 ρ_69 = some (o_76, ρ_75) → gG p l e rmL_sortsAll s m args below meth c D (cyT cy) B9 11 (lIe (lWf cy A aK B X8) D (cyT cy) B9 below args s r (σ', ρ') 1 6) (lW cy A aK B ((qm, .inl (cy 0, 4, .inl μ_78)) :: X8) σ_77 ρ_75) 1 6 209 [(0, .ref (A 0)), (8, .int o_76)] [] → gG p l e rmL_sortsAll s m args below meth c D (cyT cy) B9 11 (lIe (lWf cy A aK B X8) D (cyT cy) B9 below args s r (σ', ρ') 1 6) (lW cy A aK B ((qm, .inl (cy 0, 4, .inl μ_78)) :: X8) σ_77 ρ_69) 1 6 111 [(0, .ref (A 0)), (2, .ref (B (1 + c_62))), (3, .ref (B (1 + c_64))), (5, .int v_66), (6, .ref qm), (8, .int v_67), (9, .int v_68)] [] := by
        intro c_62 hp_63 c_64 hp_65 σ_77 hz_79 μ_78 hz_80 n_70
        induction n_70 with
        | zero =>
          intro v_66 v_67 v_68 ρ_69 o_76 ρ_75 h K_72
          rw [f_L_sortsAll_L111] at h
          cases h
        | succ n_70 ih_71 =>
          intro v_66 v_67 v_68 ρ_69 o_76 ρ_75 h K_72
          rw [f_L_sortsAll_L111] at h
          refine g_iload X dL_sortsAll_111 6 rfl ?_
          refine g_iconst X dL_sortsAll_113 (v := (4 : Int32)) (by decide) ?_
          refine g_icmp_ge X (tgt := 209) dL_sortsAll_114 (by decide) (fun hc_81 => ?_) (fun hc_81 => ?_)
          · have h := ift hc_81 h
            cases h
            exact g_sub [0, 5] rfl K_72
          · have h := iff_ hc_81 h
            refine g_iload X dL_sortsAll_117 5 rfl ?_
            refine g_if_eq X (tgt := 209) dL_sortsAll_119 (by decide) (fun hc_82 => ?_) (fun hc_82 => ?_)
            · have h := ift hc_82 h
              cases h
              exact g_sub [0, 5] rfl K_72
            · have h := iff_ hc_82 h
              refine g_aload_n X dL_sortsAll_122 rfl 0 rfl ?_
              refine g_iload X dL_sortsAll_123 6 rfl ?_
              refine g_aload_n X dL_sortsAll_125 rfl 2 rfl ?_
              obtain ⟨r_84, ρ_85, hf_83, h⟩ := bnd2_some h
              refine h_callI (As := [.ref (A 0), .int v_68, .ref (B (1 + c_64))]) (Wf := lWf cy A aK B ((qm, .inl (cy 0, 4, .inl μ_78)) :: X8)) (ws9 := (lW cy A aK B ((qm, .inl (cy 0, 4, .inl μ_78)) :: X8) σ_77 ρ_85)) X (ZL_ok _ _ _ _ _ _ _ _) (m_L_sees hp_65 hl hf_83) (va_cwS 3 X.1.2.2.2.2 gL_sortsAll_L_sees rfl rfl rfl (by decide +kernel) ⟨Nat.le_of_ble_eq_true rfl, Nat.le_of_ble_eq_true rfl⟩) rfl rfl (Nat.le_of_ble_eq_true rfl) ⟨by decide, by decide⟩ dL_sortsAll_126 rfl rfl (k' := 1) (n' := 6) (by decide) (by decide) ?_
              refine g_aload X dL_sortsAll_129 4 rfl ?_
              refine g_iload X dL_sortsAll_131 6 rfl ?_
              obtain ⟨hg_86, h⟩ := grd_some h
              refine h_mld X (k9 := v_68.toNatClampNeg) hg_86 rfl dL_sortsAll_133 ?_
              obtain ⟨v_88, hj_121, h⟩ := bnd_some h
              have K_89 : gG p l e rmL_sortsAll s m args below meth c D (cyT cy) B9 11 (lIe (lWf cy A aK B X8) D (cyT cy) B9 below args s r (σ', ρ') 1 6) (lW cy A aK B ((qm, .inl (cy 0, 4, .inl μ_78)) :: X8) σ_77 ρ_85) 1 6 142 [(0, .ref (A 0)), (2, .ref (B (1 + c_62))), (3, .ref (B (1 + c_64))), (5, .int v_66), (6, .ref qm), (9, .int v_68)] [.int v_88] := by
                refine g_istore X dL_sortsAll_142 (by decide) (lv' := [(8, .int v_88), (0, .ref (A 0)), (2, .ref (B (1 + c_62))), (3, .ref (B (1 + c_64))), (5, .int v_66), (6, .ref qm), (9, .int v_68)]) rfl ?_
                refine g_iconst X dL_sortsAll_144 (v := (0 : Int32)) (by decide) ?_
                refine g_istore X dL_sortsAll_145 (by decide) (lv' := [(10, .int (0 : Int32)), (8, .int v_88), (0, .ref (A 0)), (2, .ref (B (1 + c_62))), (3, .ref (B (1 + c_64))), (5, .int v_66), (6, .ref qm), (9, .int v_68)]) rfl ?_
                have L_102 : ∀ (c_90 : Nat) (hp_91 : c_90 < 3) (c_92 : Nat) (hp_93 : c_92 < 3) (c_94 : Int32) (c_96 : Int32) (σ_104 : St) (hz_107 : σ_104 = σ_77) (ρ_105 : St) (hz_108 : ρ_105 = ρ_85) (μ_106 : (Nat → Int32)) (hz_109 : μ_106 = μ_78) (n_98 : Nat) (v_95 : Int32) (v_97 : Int32) (o_103 : Int32), f_L_sortsAll_L147 c_90 c_92 c_94 c_96 ρ_105 μ_106 n_98 v_95 v_97 = some (o_103) → gG p l e rmL_sortsAll s m args below meth c D (cyT cy) B9 11 (lIe (lWf cy A aK B X8) D (cyT cy) B9 below args s r (σ', ρ') 1 6) (lW cy A aK B ((qm, .inl (cy 0, 4, .inl μ_106)) :: X8) σ_104 ρ_105) 1 6 193 [(0, .ref (A 0)), (2, .ref (B (1 + c_90))), (3, .ref (B (1 + c_92))), (5, .int c_94), (6, .ref qm), (8, .int o_103), (9, .int c_96)] [] → gG p l e rmL_sortsAll s m args below meth c D (cyT cy) B9 11 (lIe (lWf cy A aK B X8) D (cyT cy) B9 below args s r (σ', ρ') 1 6) (lW cy A aK B ((qm, .inl (cy 0, 4, .inl μ_106)) :: X8) σ_104 ρ_105) 1 6 147 [(0, .ref (A 0)), (2, .ref (B (1 + c_90))), (3, .ref (B (1 + c_92))), (5, .int c_94), (6, .ref qm), (8, .int v_95), (9, .int c_96), (10, .int v_97)] [] := by
                  intro c_90 hp_91 c_92 hp_93 c_94 c_96 σ_104 hz_107 ρ_105 hz_108 μ_106 hz_109 n_98
                  induction n_98 with
                  | zero =>
                    intro v_95 v_97 o_103 h K_100
                    rw [f_L_sortsAll_L147] at h
                    cases h
                  | succ n_98 ih_99 =>
                    intro v_95 v_97 o_103 h K_100
                    rw [f_L_sortsAll_L147] at h
                    refine g_iload X dL_sortsAll_147 7 rfl ?_
                    refine g_aload X dL_sortsAll_149 4 rfl ?_
                    refine g_iload X dL_sortsAll_151 6 rfl ?_
                    obtain ⟨hg_110, h⟩ := grd_some h
                    refine h_mld X (k9 := c_96.toNatClampNeg) hg_110 rfl dL_sortsAll_153 ?_
                    refine g_icmp_ge X (tgt := 193) dL_sortsAll_154 (by decide) (fun hc_111 => ?_) (fun hc_111 => ?_)
                    · have h := ift hc_111 h
                      cases h
                      exact g_sub [0, 1, 2, 3, 4, 5, 6] rfl K_100
                    · have h := iff_ hc_111 h
                      refine g_iload X dL_sortsAll_157 5 rfl ?_
                      refine g_if_eq X (tgt := 193) dL_sortsAll_159 (by decide) (fun hc_112 => ?_) (fun hc_112 => ?_)
                      · have h := ift hc_112 h
                        cases h
                        exact g_sub [0, 1, 2, 3, 4, 5, 6] rfl K_100
                      · have h := iff_ hc_112 h
                        refine g_aload_n X dL_sortsAll_162 rfl 2 rfl ?_
                        refine g_iconst X dL_sortsAll_163 (v := (2 : Int32)) (by decide) ?_
                        refine h_aald X hp_93 (k9 := 2) (by decide) (by decide) (by decide) dL_sortsAll_164 ?_
                        refine g_iload X dL_sortsAll_165 7 rfl ?_
                        obtain ⟨hg_113, h⟩ := grd_some h
                        refine h_gld X (isGr.mk hp_93 (k9 := 2) (by decide)) (k9 := v_97.toNatClampNeg) hg_113 rfl dL_sortsAll_167 ?_
                        refine g_aload_n X dL_sortsAll_168 rfl 1 rfl ?_
                        refine g_iconst X dL_sortsAll_169 (v := (2 : Int32)) (by decide) ?_
                        refine h_aald X hp_91 (k9 := 2) (by decide) (by decide) (by decide) dL_sortsAll_170 ?_
                        refine g_iload X dL_sortsAll_171 3 rfl ?_
                        refine g_iload X dL_sortsAll_173 7 rfl ?_
                        refine g_iadd X dL_sortsAll_175 ?_
                        obtain ⟨hg_114, h⟩ := grd_some h
                        refine h_gld X (isGr.mk hp_91 (k9 := 2) (by decide)) (k9 := (c_94 + v_97).toNatClampNeg) hg_114 rfl dL_sortsAll_176 ?_
                        obtain ⟨v_116, hj_118, h⟩ := bnd_some h
                        have K_117 : gG p l e rmL_sortsAll s m args below meth c D (cyT cy) B9 11 (lIe (lWf cy A aK B X8) D (cyT cy) B9 below args s r (σ', ρ') 1 6) (lW cy A aK B ((qm, .inl (cy 0, 4, .inl μ_106)) :: X8) σ_104 ρ_105) 1 6 185 [(0, .ref (A 0)), (2, .ref (B (1 + c_90))), (3, .ref (B (1 + c_92))), (5, .int c_94), (6, .ref qm), (9, .int c_96), (10, .int v_97)] [.int v_116] := by
                          refine g_istore X dL_sortsAll_185 (by decide) (lv' := [(8, .int v_116), (0, .ref (A 0)), (2, .ref (B (1 + c_90))), (3, .ref (B (1 + c_92))), (5, .int c_94), (6, .ref qm), (9, .int c_96), (10, .int v_97)]) rfl ?_
                          refine g_iinc X dL_sortsAll_187 7 rfl (v := v_97 + (1 : Int32)) rfl (by decide) (lv' := [(10, .int (v_97 + (1 : Int32))), (8, .int v_116), (0, .ref (A 0)), (2, .ref (B (1 + c_90))), (3, .ref (B (1 + c_92))), (5, .int c_94), (6, .ref qm), (9, .int c_96)]) rfl ?_
                          refine g_goto X (tgt := 147) dL_sortsAll_190 (by decide) ?_
                          exact g_sub [2, 3, 4, 5, 6, 1, 7, 0] rfl (ih_99 _ _ _ h K_100)
                        have h := hj_118
                        clear hj_118
                        refine g_icmp_ne X (tgt := 184) dL_sortsAll_177 (by decide) (fun hc_115 => ?_) (fun hc_115 => ?_)
                        · have h := iff_ hc_115 h
                          refine g_iconst X dL_sortsAll_184 (v := (0 : Int32)) (by decide) ?_
                          cases h
                          exact g_sub [0, 1, 2, 3, 4, 6, 7] rfl K_117
                        · have h := ift hc_115 h
                          refine g_iconst X dL_sortsAll_180 (v := (1 : Int32)) (by decide) ?_
                          refine g_goto X (tgt := 185) dL_sortsAll_181 (by decide) ?_
                          cases h
                          exact g_sub [0, 1, 2, 3, 4, 6, 7] rfl K_117
                obtain ⟨o_103, hl_119, h⟩ := bnd_some h
                refine g_sub [2, 3, 4, 5, 6, 1, 7, 0] rfl (L_102 c_62 hp_63 c_64 hp_65 v_66 v_68 σ_77 rfl ρ_85 rfl μ_78 rfl FU v_88 (0 : Int32) o_103 hl_119 ?_)
                refine g_iload X dL_sortsAll_193 3 rfl ?_
                refine g_aload X dL_sortsAll_195 4 rfl ?_
                refine g_iload X dL_sortsAll_197 6 rfl ?_
                obtain ⟨hg_120, h⟩ := grd_some h
                refine h_mld X (k9 := v_68.toNatClampNeg) hg_120 rfl dL_sortsAll_199 ?_
                refine g_iadd X dL_sortsAll_200 ?_
                refine g_istore X dL_sortsAll_201 (by decide) (lv' := [(5, .int (v_66 + (μ_78 v_68.toNatClampNeg))), (0, .ref (A 0)), (2, .ref (B (1 + c_62))), (3, .ref (B (1 + c_64))), (6, .ref qm), (8, .int o_103), (9, .int v_68)]) rfl ?_
                refine g_iinc X dL_sortsAll_203 6 rfl (v := v_68 + (1 : Int32)) rfl (by decide) (lv' := [(9, .int (v_68 + (1 : Int32))), (5, .int (v_66 + (μ_78 v_68.toNatClampNeg))), (0, .ref (A 0)), (2, .ref (B (1 + c_62))), (3, .ref (B (1 + c_64))), (6, .ref qm), (8, .int o_103)]) rfl ?_
                refine g_goto X (tgt := 111) dL_sortsAll_206 (by decide) ?_
                exact g_sub [2, 3, 4, 1, 5, 6, 0] rfl (ih_71 _ _ _ _ _ _ h K_72)
              have h := hj_121
              clear hj_121
              refine g_icmp_ne X (tgt := 141) dL_sortsAll_134 (by decide) (fun hc_87 => ?_) (fun hc_87 => ?_)
              · have h := iff_ hc_87 h
                refine g_iconst X dL_sortsAll_141 (v := (0 : Int32)) (by decide) ?_
                cases h
                exact g_sub [0, 1, 2, 3, 4, 6] rfl K_89
              · have h := ift hc_87 h
                refine g_iconst X dL_sortsAll_137 (v := (1 : Int32)) (by decide) ?_
                refine g_goto X (tgt := 142) dL_sortsAll_138 (by decide) ?_
                cases h
                exact g_sub [0, 1, 2, 3, 4, 6] rfl K_89
      obtain ⟨o_76, ρ_75, hl_122, h⟩ := bnd2_some h
      refine g_sub [3, 4, 5, 1, 6, 2, 0] rfl (L_74 a2 h2 a3 h3 σ_58 rfl μ_17 rfl FU (0 : Int32) v_60 (0 : Int32) ρ_55 o_76 ρ_75 hl_122 ?_)
      refine g_iload X dL_sortsAll_209 1 rfl ?_
      obtain ⟨v_124, σ_125, hj_132, h⟩ := bnd2_some h
      have K_126 : gG p l e rmL_sortsAll s m args below meth c D (cyT cy) B9 11 (lIe (lWf cy A aK B X8) D (cyT cy) B9 below args s r (σ', ρ') 1 6) (lW cy A aK B ((qm, .inl (cy 0, 4, .inl μ_17)) :: X8) σ_125 ρ_75) 1 6 226 [] [.int v_124] := by
        obtain ⟨hg_131, h⟩ := grd_some h
        cases h
        refine h_drop ?_
        exact g_zret (Wf := (lWf cy A aK B X8)) (u := (_, _)) X (nar01 hg_131) ⟨rfl, rfl⟩ dL_sortsAll_226
      have h := hj_132
      clear hj_132
      refine g_if_eq X (tgt := 225) dL_sortsAll_211 (by decide) (fun hc_123 => ?_) (fun hc_123 => ?_)
      · have h := ift hc_123 h
        refine g_iconst X dL_sortsAll_225 (v := (0 : Int32)) (by decide) ?_
        cases h
        exact g_sub [] rfl K_126
      · have h := iff_ hc_123 h
        refine g_aload_n X dL_sortsAll_214 rfl 0 rfl ?_
        obtain ⟨r_128, σ_129, hf_127, h⟩ := bnd2_some h
        refine g_callVI (AD := A) (As := []) X (ZL_ok _ _ _ _ _ _ _ _) (mI_up (m_X10_sortAll hf_127)) (cwV 0 X.1.2.2.2.2 gL_sortsAll_X10_sortAll rfl rfl rfl (by decide +kernel) ⟨Nat.le_of_ble_eq_true rfl, Nat.le_of_ble_eq_true rfl⟩) rfl cm0 (cE_0 cy A aK σ_58) rfl rfl (Nat.le_of_ble_eq_true rfl) ⟨by decide, by decide⟩ dL_sortsAll_215 ?_
        refine g_if_ne X (tgt := 225) dL_sortsAll_218 (by decide) (fun hc_130 => ?_) (fun hc_130 => ?_)
        · have h := iff_ hc_130 h
          refine g_iconst X dL_sortsAll_225 (v := (0 : Int32)) (by decide) ?_
          cases h
          exact g_sub [] rfl K_126
        · have h := ift hc_130 h
          refine g_iconst X dL_sortsAll_221 (v := (1 : Int32)) (by decide) ?_
          refine g_goto X (tgt := 226) dL_sortsAll_222 (by decide) ?_
          cases h
          exact g_sub [] rfl K_126
    have h := hj_133
    clear hj_133
    refine g_icmp_ne X (tgt := 102) dL_sortsAll_95 (by decide) (fun hc_59 => ?_) (fun hc_59 => ?_)
    · have h := iff_ hc_59 h
      refine g_iconst X dL_sortsAll_102 (v := (0 : Int32)) (by decide) ?_
      cases h
      exact g_sub [1, 3, 4, 7] rfl K_61
    · have h := ift hc_59 h
      refine g_iconst X dL_sortsAll_98 (v := (1 : Int32)) (by decide) ?_
      refine g_goto X (tgt := 103) dL_sortsAll_99 (by decide) ?_
      cases h
      exact g_sub [1, 3, 4, 7] rfl K_61
  exact K0
end LV
