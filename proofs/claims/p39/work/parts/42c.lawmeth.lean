section LV
variable {D : va_G} {cy : Nat → ClassId} {A aK aO aS aV aT bS bV dA B : Nat → Nat} {l : Launch} {X8 : va_W}
set_option maxHeartbeats 16000000 in
set_option maxRecDepth 100000 in
theorem m_L_sorts {σ ρ : St} {a2 : Int32} {a3 : Int32} {a4 : Nat} {a5 : Nat} {a6 : Nat} {r : Int32} {σ' : St} {ρ' : St} (h4 : a4 < 3) (h5 : a5 < 3) (h6 : a6 < 3) (hl : l.stackTraces = false) (h : f_L_sorts a2 a3 a4 a5 a6 σ ρ = some (r, σ', ρ')) : wI (ZL aK aO aS aV aT bS bV dA) D (cyT cy) l yL_sorts wzL_sorts rmL_sorts (lWf cy A aK B X8) [.ref (A 0), .ref (B 0), .int a2, .int a3, .ref (B (1 + a4)), .ref (B (1 + a5)), .ref (B (1 + a6)), .ref (B 13)] (σ, ρ) r (σ', ρ') 3 18 := by
  unfold f_L_sorts at h
  refine wI_of (cc := cL_sorts) (maxL := 15) (ret := (some .boolean)) (by decide) rfl (Nat.le_of_ble_eq_true rfl) (fun p e s m args below meth c B9 X => ?_)
  have lk0 : Cond.methodLink RL 161 Lib.Math.min.name ∈ wzL_sorts := by decide +kernel
  have lk1 : Cond.static Lib.Math.min.name ∈ wzL_sorts := by decide +kernel
  have lk2 : Cond.initialized "java/lang/Math" ∈ wzL_sorts := by decide +kernel
  have lk3 : Cond.code Lib.Math.min.name Lib.Math.min.code 2 (some .int) ∈ wzL_sorts := by decide +kernel
  have K0 : gG p l e rmL_sorts s m args below meth c D (cyT cy) B9 15 (lIe (lWf cy A aK B X8) D (cyT cy) B9 below args s r (σ', ρ') 3 18) (lW cy A aK B X8 σ ρ) 0 0 0 [(0, .ref (A 0)), (1, .ref (B 0)), (2, .int a2), (3, .int a3), (4, .ref (B (1 + a4))), (5, .ref (B (1 + a5))), (6, .ref (B (1 + a6))), (7, .ref (B 13))] [] := by
    refine g_aload_n X dL_sorts_0 rfl 0 rfl ?_
    refine g_iload_n X dL_sorts_1 rfl 2 rfl ?_
    refine g_aload X dL_sorts_2 4 rfl ?_
    obtain ⟨r_2, ρ_3, hf_1, h⟩ := bnd2_some h
    refine h_callI (As := [.ref (A 0), .int a2, .ref (B (1 + a4))]) (Wf := lWf cy A aK B X8) (ws9 := (lW cy A aK B X8 σ ρ_3)) X (ZL_ok _ _ _ _ _ _ _ _) (m_L_sees h4 hl hf_1) (va_cwS 3 X.1.2.2.2.2 gZL_sorts_L_sees rfl rfl rfl (by decide +kernel) ⟨Nat.le_of_ble_eq_true rfl, Nat.le_of_ble_eq_true rfl⟩) rfl rfl (Nat.le_of_ble_eq_true rfl) ⟨by decide, by decide⟩ dL_sorts_4 rfl rfl (k' := 0) (n' := 0) (by decide) (by decide) ?_
    refine g_istore X dL_sorts_7 (by decide) (lv' := [(8, .int r_2), (0, .ref (A 0)), (1, .ref (B 0)), (2, .int a2), (3, .int a3), (4, .ref (B (1 + a4))), (5, .ref (B (1 + a5))), (6, .ref (B (1 + a6))), (7, .ref (B 13))]) rfl ?_
    refine g_iload_n X dL_sorts_9 rfl 4 rfl ?_
    refine g_iconst X dL_sorts_10 (v := (2 : Int32)) (by decide) ?_
    obtain ⟨v_5, hj_122, h⟩ := bnd_some h
    have K_6 : gG p l e rmL_sorts s m args below meth c D (cyT cy) B9 15 (lIe (lWf cy A aK B X8) D (cyT cy) B9 below args s r (σ', ρ') 3 18) (lW cy A aK B X8 σ ρ_3) 0 0 24 [(0, .ref (A 0)), (1, .ref (B 0)), (2, .int a2), (3, .int a3), (4, .ref (B (1 + a4))), (5, .ref (B (1 + a5))), (6, .ref (B (1 + a6))), (7, .ref (B 13)), (8, .int r_2)] [.int v_5] := by
      refine g_istore X dL_sorts_24 (by decide) (lv' := [(9, .int v_5), (0, .ref (A 0)), (1, .ref (B 0)), (2, .int a2), (3, .int a3), (4, .ref (B (1 + a4))), (5, .ref (B (1 + a5))), (6, .ref (B (1 + a6))), (7, .ref (B 13)), (8, .int r_2)]) rfl ?_
      refine g_iload X dL_sorts_26 0 rfl ?_
      obtain ⟨v_9, ρ_10, hj_121, h⟩ := bnd2_some h
      have K_11 : gG p l e rmL_sorts s m args below meth c D (cyT cy) B9 15 (lIe (lWf cy A aK B X8) D (cyT cy) B9 below args s r (σ', ρ') 3 18) (lW cy A aK B X8 σ ρ_10) 0 0 44 [(0, .ref (A 0)), (1, .ref (B 0)), (2, .int a2), (3, .int a3), (4, .ref (B (1 + a4))), (5, .ref (B (1 + a5))), (6, .ref (B (1 + a6))), (7, .ref (B 13)), (8, .int r_2), (9, .int v_5)] [.int v_9] := by
        refine g_istore X dL_sorts_44 (by decide) (lv' := [(10, .int v_9), (0, .ref (A 0)), (1, .ref (B 0)), (2, .int a2), (3, .int a3), (4, .ref (B (1 + a4))), (5, .ref (B (1 + a5))), (6, .ref (B (1 + a6))), (7, .ref (B 13)), (8, .int r_2), (9, .int v_5)]) rfl ?_
        refine g_iload X dL_sorts_46 10 rfl ?_
        obtain ⟨v_17, ρ_18, hj_120, h⟩ := bnd2_some h
        have K_19 : gG p l e rmL_sorts s m args below meth c D (cyT cy) B9 15 (lIe (lWf cy A aK B X8) D (cyT cy) B9 below args s r (σ', ρ') 3 18) (lW cy A aK B X8 σ ρ_18) 0 0 83 [(0, .ref (A 0)), (2, .int a2), (3, .int a3), (4, .ref (B (1 + a4))), (5, .ref (B (1 + a5))), (6, .ref (B (1 + a6))), (7, .ref (B 13)), (8, .int r_2), (10, .int v_9)] [.int v_17] := by
          refine g_istore X dL_sorts_83 (by decide) (lv' := [(11, .int v_17), (0, .ref (A 0)), (2, .int a2), (3, .int a3), (4, .ref (B (1 + a4))), (5, .ref (B (1 + a5))), (6, .ref (B (1 + a6))), (7, .ref (B 13)), (8, .int r_2), (10, .int v_9)]) rfl ?_
          refine g_iload_n X dL_sorts_85 rfl 3 rfl ?_
          refine g_iconst X dL_sorts_86 (v := (3 : Int32)) (by decide) ?_
          obtain ⟨v_29, hj_119, h⟩ := bnd_some h
          have K_30 : gG p l e rmL_sorts s m args below meth c D (cyT cy) B9 15 (lIe (lWf cy A aK B X8) D (cyT cy) B9 below args s r (σ', ρ') 3 18) (lW cy A aK B X8 σ ρ_18) 0 0 113 [(0, .ref (A 0)), (2, .int a2), (3, .int a3), (4, .ref (B (1 + a4))), (5, .ref (B (1 + a5))), (6, .ref (B (1 + a6))), (7, .ref (B 13)), (8, .int r_2), (10, .int v_9), (11, .int v_17)] [.int v_29] := by
            refine g_istore X dL_sorts_113 (by decide) (lv' := [(12, .int v_29), (0, .ref (A 0)), (2, .int a2), (3, .int a3), (4, .ref (B (1 + a4))), (5, .ref (B (1 + a5))), (6, .ref (B (1 + a6))), (7, .ref (B 13)), (8, .int r_2), (10, .int v_9), (11, .int v_17)]) rfl ?_
            refine g_iconst X dL_sorts_115 (v := (0 : Int32)) (by decide) ?_
            refine g_istore X dL_sorts_116 (by decide) (lv' := [(13, .int (0 : Int32)), (12, .int v_29), (0, .ref (A 0)), (2, .int a2), (3, .int a3), (4, .ref (B (1 + a4))), (5, .ref (B (1 + a5))), (6, .ref (B (1 + a6))), (7, .ref (B 13)), (8, .int r_2), (10, .int v_9), (11, .int v_17)]) rfl ?_
            have L_51 : ∀ (c_33 : Int32) (c_34 : Int32) (c_35 : Nat) (hp_36 : c_35 < 3) (c_37 : Nat) (hp_38 : c_37 < 3) (c_39 : Nat) (hp_40 : c_39 < 3) (c_41 : Int32) (c_42 : Int32) (c_43 : Int32) (c_44 : Int32) (σ_53 : St) (hz_54 : σ_53 = σ) (n_47 : Nat) (v_45 : Int32) (ρ_46 : St) (ρ_52 : St), f_L_sorts_L118 c_35 c_37 c_41 n_47 v_45 ρ_46 = some (ρ_52) → gG p l e rmL_sorts s m args below meth c D (cyT cy) B9 15 (lIe (lWf cy A aK B X8) D (cyT cy) B9 below args s r (σ', ρ') 3 18) (lW cy A aK B X8 σ_53 ρ_52) 0 0 142 [(0, .ref (A 0)), (2, .int c_33), (3, .int c_34), (4, .ref (B (1 + c_35))), (5, .ref (B (1 + c_37))), (6, .ref (B (1 + c_39))), (7, .ref (B 13)), (8, .int c_41), (10, .int c_42), (11, .int c_43), (12, .int c_44)] [] → gG p l e rmL_sorts s m args below meth c D (cyT cy) B9 15 (lIe (lWf cy A aK B X8) D (cyT cy) B9 below args s r (σ', ρ') 3 18) (lW cy A aK B X8 σ_53 ρ_46) 0 0 118 [(0, .ref (A 0)), (2, .int c_33), (3, .int c_34), (4, .ref (B (1 + c_35))), (5, .ref (B (1 + c_37))), (6, .ref (B (1 + c_39))), (7, .ref (B 13)), (8, .int c_41), (10, .int c_42), (11, .int c_43), (12, .int c_44), (13, .int v_45)] [] := by
              intro c_33 c_34 c_35 hp_36 c_37 hp_38 c_39 hp_40 c_41 c_42 c_43 c_44 σ_53 hz_54 n_47
              induction n_47 with
              | zero =>
                intro v_45 ρ_46 ρ_52 h K_49
                rw [f_L_sorts_L118] at h
                cases h
              | succ n_47 ih_48 =>
                intro v_45 ρ_46 ρ_52 h K_49
                rw [f_L_sorts_L118] at h
                refine g_iload X dL_sorts_118 11 rfl ?_
                refine g_iload X dL_sorts_120 7 rfl ?_
                refine g_icmp_ge X (tgt := 142) dL_sorts_122 (by decide) (fun hc_55 => ?_) (fun hc_55 => ?_)
                · have h := ift hc_55 h
                  cases h
                  exact g_sub [0, 1, 2, 3, 4, 5, 6, 7, 8, 9, 10] rfl K_49
                · have h := iff_ hc_55 h
                  refine g_aload X dL_sorts_125 3 rfl ?_
                  refine g_iload X dL_sorts_127 11 rfl ?_
                  refine g_aload X dL_sorts_129 4 rfl ?_
                  refine g_iload X dL_sorts_131 11 rfl ?_
                  obtain ⟨ρ_57, hf_56, h⟩ := bnd_some h
                  refine h_callV (As := [.ref (B (1 + c_35)), .int v_45, .ref (B (1 + c_37)), .int v_45]) (Wf := lWf cy A aK B X8) (ws9 := (lW cy A aK B X8 σ_53 ρ_57)) X (ZL_ok _ _ _ _ _ _ _ _) (m_L_copies hp_36 hp_38 hf_56) (va_cwS 4 X.1.2.2.2.2 gZL_sorts_L_copies rfl rfl rfl (by decide +kernel) ⟨Nat.le_of_ble_eq_true rfl, Nat.le_of_ble_eq_true rfl⟩) rfl rfl (Nat.le_of_ble_eq_true rfl) ⟨by decide, by decide⟩ dL_sorts_133 rfl rfl (k' := 0) (n' := 0) (by decide) (by decide) ?_
                  refine g_iinc X dL_sorts_136 11 rfl (v := v_45 + (1 : Int32)) rfl (by decide) (lv' := [(13, .int (v_45 + (1 : Int32))), (0, .ref (A 0)), (2, .int c_33), (3, .int c_34), (4, .ref (B (1 + c_35))), (5, .ref (B (1 + c_37))), (6, .ref (B (1 + c_39))), (7, .ref (B 13)), (8, .int c_41), (10, .int c_42), (11, .int c_43), (12, .int c_44)]) rfl ?_
                  refine g_goto X (tgt := 118) dL_sorts_139 (by decide) ?_
                  exact g_sub [1, 2, 3, 4, 5, 6, 7, 8, 9, 10, 11, 0] rfl (ih_48 _ _ _ h K_49)
            obtain ⟨ρ_52, hl_58, h⟩ := bnd_some h
            refine g_sub [2, 3, 4, 5, 6, 7, 8, 9, 10, 11, 1, 0] rfl (L_51 a2 a3 a4 h4 a5 h5 a6 h6 r_2 v_9 v_17 v_29 σ rfl FU (0 : Int32) ρ_18 ρ_52 hl_58 ?_)
            refine g_aload X dL_sorts_142 3 rfl ?_
            refine g_iload X dL_sorts_144 8 rfl ?_
            refine g_iload X dL_sorts_146 9 rfl ?_
            refine g_iload X dL_sorts_148 10 rfl ?_
            refine g_aload X dL_sorts_150 4 rfl ?_
            refine g_aload X dL_sorts_152 6 rfl ?_
            obtain ⟨r_60, ρ_61, hf_59, h⟩ := bnd2_some h
            refine h_callI (As := [.ref (B (1 + a4)), .int v_9, .int v_17, .int v_29, .ref (B (1 + a5)), .ref (B 13)]) (Wf := lWf cy A aK B X8) (ws9 := (lW cy A aK B X8 σ ρ_61)) X (ZL_ok _ _ _ _ _ _ _ _) (m_L_due h4 h5 hf_59) (va_cwS 6 X.1.2.2.2.2 gZL_sorts_L_due rfl rfl rfl (by decide +kernel) ⟨Nat.le_of_ble_eq_true rfl, Nat.le_of_ble_eq_true rfl⟩) rfl rfl (Nat.le_of_ble_eq_true rfl) ⟨by decide, by decide⟩ dL_sorts_154 rfl rfl (k' := 0) (n' := 0) (by decide) (by decide) ?_
            refine g_istore X dL_sorts_157 (by decide) (lv' := [(13, .int r_60), (0, .ref (A 0)), (2, .int a2), (3, .int a3), (4, .ref (B (1 + a4))), (5, .ref (B (1 + a5))), (6, .ref (B (1 + a6))), (7, .ref (B 13)), (8, .int r_2), (10, .int v_9), (11, .int v_17), (12, .int v_29)]) rfl ?_
            refine g_aload_n X dL_sorts_159 rfl 1 rfl ?_
            refine g_iload_n X dL_sorts_160 rfl 3 rfl ?_
            refine g_iload_n X dL_sorts_161 rfl 2 rfl ?_
            refine g_iload X dL_sorts_162 9 rfl ?_
            refine g_iload X dL_sorts_164 10 rfl ?_
            obtain ⟨r_63, σ_64, hf_62, h⟩ := bnd2_some h
            refine h_callIT (As := [.ref (A 0), .int a3, .int a2, .int v_9, .int v_17]) (Wf := lWf cy A aK B X8) (ws9 := (lW cy A aK B X8 σ_64 ρ_61)) X (ZL_ok _ _ _ _ _ _ _ _) (m_L_done hl hf_62) (vx_cwSW 5 X.1.2.2.2.2 gZL_sorts_L_done rfl rfl rfl (by decide +kernel) ⟨Nat.le_of_ble_eq_true rfl, Nat.le_of_ble_eq_true rfl⟩) rfl rfl (Nat.le_of_ble_eq_true rfl) ⟨by decide, by decide⟩ dL_sorts_166 rfl rfl (k' := 1) (n' := 6) (by decide) (by decide) ?_
            refine g_iload X dL_sorts_169 0 rfl ?_
            obtain ⟨v_66, σ_67, ρ_68, hj_118, h⟩ := bnd3_some h
            have K_69 : gG p l e rmL_sorts s m args below meth c D (cyT cy) B9 15 (lIe (lWf cy A aK B X8) D (cyT cy) B9 below args s r (σ', ρ') 3 18) (lW cy A aK B X8 σ_67 ρ_68) 2 12 240 [(0, .ref (A 0)), (2, .int a2), (3, .int a3), (5, .ref (B (1 + a5))), (8, .int r_2)] [.int v_66] := by
              refine g_istore X dL_sorts_240 (by decide) (lv' := [(14, .int v_66), (0, .ref (A 0)), (2, .int a2), (3, .int a3), (5, .ref (B (1 + a5))), (8, .int r_2)]) rfl ?_
              refine g_iload X dL_sorts_242 0 rfl ?_
              obtain ⟨v_89, σ_90, hj_117, h⟩ := bnd2_some h
              have K_91 : gG p l e rmL_sorts s m args below meth c D (cyT cy) B9 15 (lIe (lWf cy A aK B X8) D (cyT cy) B9 below args s r (σ', ρ') 3 18) (lW cy A aK B X8 σ_90 ρ_68) 3 18 322 [(14, .int v_89)] [] := by
                refine g_iload X dL_sorts_322 0 rfl ?_
                obtain ⟨hg_116, h⟩ := grd_some h
                cases h
                exact g_zret (Wf := (lWf cy A aK B X8)) (u := (_, _)) X (nar01 hg_116) ⟨rfl, rfl⟩ dL_sorts_324
              have h := hj_117
              clear hj_117
              refine g_if_eq X (tgt := 322) dL_sorts_244 (by decide) (fun hc_88 => ?_) (fun hc_88 => ?_)
              · have h := ift hc_88 h
                cases h
                refine g_wid (k' := 3) (n' := 18) (by decide) (by decide) ?_
                exact g_sub [0] rfl K_91
              · have h := iff_ hc_88 h
                refine g_iload_n X dL_sorts_247 rfl 3 rfl ?_
                refine g_iconst X dL_sorts_248 (v := (1 : Int32)) (by decide) ?_
                refine g_icmp_ne X (tgt := 322) dL_sorts_249 (by decide) (fun hc_92 => ?_) (fun hc_92 => ?_)
                · have h := iff_ hc_92 h
                  cases h
                  refine g_wid (k' := 3) (n' := 18) (by decide) (by decide) ?_
                  exact g_sub [0] rfl K_91
                · have h := ift hc_92 h
                  refine g_iload X dL_sorts_252 5 rfl ?_
                  refine g_if_le X (tgt := 322) dL_sorts_254 (by decide) (fun hc_93 => ?_) (fun hc_93 => ?_)
                  · have h := ift hc_93 h
                    cases h
                    refine g_wid (k' := 3) (n' := 18) (by decide) (by decide) ?_
                    exact g_sub [0] rfl K_91
                  · have h := iff_ hc_93 h
                    refine g_aload_n X dL_sorts_257 rfl 1 rfl ?_
                    refine g_iload_n X dL_sorts_258 rfl 2 rfl ?_
                    obtain ⟨r_95, hf_94, h⟩ := bndQ_some h
                    refine g_xVI_ret (AD := A) (As := [.int a2]) X (ZL_ok _ _ _ _ _ _ _ _) (xI_up (m_X10_isSorted hl hf_94)) (cwV 1 X.1.2.2.2.2 gZL_sorts_X10_isSorted rfl rfl rfl (by decide +kernel) ⟨Nat.le_of_ble_eq_true rfl, Nat.le_of_ble_eq_true rfl⟩) rfl cm0 (cE_0 cy A aK σ_67) rfl rfl (Nat.le_of_ble_eq_true rfl) ⟨Nat.le_of_ble_eq_true rfl, Nat.le_of_ble_eq_true rfl⟩ dL_sorts_259 (k' := 2) (n' := 12) (thrC_k _ _) (thrS_k _ _) ?_
                    obtain ⟨v_97, σ_98, hj_115, h⟩ := bnd2_some h
                    have K_99 : gG p l e rmL_sorts s m args below meth c D (cyT cy) B9 15 (lIe (lWf cy A aK B X8) D (cyT cy) B9 below args s r (σ', ρ') 3 18) (lW cy A aK B X8 σ_98 ρ_68) 3 18 320 [] [.int v_97] := by
                      refine g_istore X dL_sorts_320 (by decide) (lv' := [(14, .int v_97)]) rfl ?_
                      cases h
                      exact g_sub [0] rfl K_91
                    have h := hj_115
                    clear hj_115
                    refine g_if_eq X (tgt := 319) dL_sorts_262 (by decide) (fun hc_96 => ?_) (fun hc_96 => ?_)
                    · have h := ift hc_96 h
                      refine g_iconst X dL_sorts_319 (v := (0 : Int32)) (by decide) ?_
                      cases h
                      refine g_wid (k' := 3) (n' := 18) (by decide) (by decide) ?_
                      exact g_sub [] rfl K_99
                    · have h := iff_ hc_96 h
                      refine g_aload_n X dL_sorts_265 rfl 1 rfl ?_
                      refine g_iload_n X dL_sorts_266 rfl 2 rfl ?_
                      obtain ⟨r_101, hf_100, h⟩ := bndQ_some h
                      refine g_xVI_ret (AD := A) (As := [.int a2]) X (ZL_ok _ _ _ _ _ _ _ _) (xI_up (m_X10_runs hl hf_100)) (cwV 1 X.1.2.2.2.2 gZL_sorts_X10_runs rfl rfl rfl (by decide +kernel) ⟨Nat.le_of_ble_eq_true rfl, Nat.le_of_ble_eq_true rfl⟩) rfl cm0 (cE_0 cy A aK σ_67) rfl rfl (Nat.le_of_ble_eq_true rfl) ⟨Nat.le_of_ble_eq_true rfl, Nat.le_of_ble_eq_true rfl⟩ dL_sorts_267 (k' := 2) (n' := 12) (thrC_k _ _) (thrS_k _ _) ?_
                      refine g_iconst X dL_sorts_270 (v := (1 : Int32)) (by decide) ?_
                      refine g_icmp_ne X (tgt := 319) dL_sorts_271 (by decide) (fun hc_102 => ?_) (fun hc_102 => ?_)
                      · have h := iff_ hc_102 h
                        refine g_iconst X dL_sorts_319 (v := (0 : Int32)) (by decide) ?_
                        cases h
                        refine g_wid (k' := 3) (n' := 18) (by decide) (by decide) ?_
                        exact g_sub [] rfl K_99
                      · have h := ift hc_102 h
                        refine g_aload_n X dL_sorts_274 rfl 1 rfl ?_
                        refine g_iload_n X dL_sorts_275 rfl 2 rfl ?_
                        obtain ⟨r_104, hf_103, h⟩ := bndQ_some h
                        refine g_xVI_ret (AD := A) (As := [.int a2]) X (ZL_ok _ _ _ _ _ _ _ _) (xI_up (m_X10_longestRun hl hf_103)) (cwV 1 X.1.2.2.2.2 gZL_sorts_X10_longestRun rfl rfl rfl (by decide +kernel) ⟨Nat.le_of_ble_eq_true rfl, Nat.le_of_ble_eq_true rfl⟩) rfl cm0 (cE_0 cy A aK σ_67) rfl rfl (Nat.le_of_ble_eq_true rfl) ⟨Nat.le_of_ble_eq_true rfl, Nat.le_of_ble_eq_true rfl⟩ dL_sorts_276 (k' := 2) (n' := 12) (thrC_k _ _) (thrS_k _ _) ?_
                        refine g_iload X dL_sorts_279 5 rfl ?_
                        refine g_icmp_ne X (tgt := 319) dL_sorts_281 (by decide) (fun hc_105 => ?_) (fun hc_105 => ?_)
                        · have h := iff_ hc_105 h
                          refine g_iconst X dL_sorts_319 (v := (0 : Int32)) (by decide) ?_
                          cases h
                          refine g_wid (k' := 3) (n' := 18) (by decide) (by decide) ?_
                          exact g_sub [] rfl K_99
                        · have h := ift hc_105 h
                          refine g_aload_n X dL_sorts_284 rfl 1 rfl ?_
                          refine g_iload_n X dL_sorts_285 rfl 2 rfl ?_
                          obtain ⟨r_107, σ_108, hf_106, h⟩ := bndQ2_some h
                          refine g_xVI_ret (AD := A) (As := [.int a2]) X (ZL_ok _ _ _ _ _ _ _ _) (xI_up (m_X10_wrongPairs hl hf_106)) (cwV 1 X.1.2.2.2.2 gZL_sorts_X10_wrongPairs rfl rfl rfl (by decide +kernel) ⟨Nat.le_of_ble_eq_true rfl, Nat.le_of_ble_eq_true rfl⟩) rfl cm0 (cE_0 cy A aK σ_67) rfl rfl (Nat.le_of_ble_eq_true rfl) ⟨Nat.le_of_ble_eq_true rfl, Nat.le_of_ble_eq_true rfl⟩ dL_sorts_286 (k' := 2) (n' := 12) (thrC_k _ _) (thrS_k _ _) ?_
                          refine g_if_ne X (tgt := 319) dL_sorts_289 (by decide) (fun hc_109 => ?_) (fun hc_109 => ?_)
                          · have h := iff_ hc_109 h
                            refine g_iconst X dL_sorts_319 (v := (0 : Int32)) (by decide) ?_
                            cases h
                            refine g_wid (k' := 3) (n' := 18) (by decide) (by decide) ?_
                            exact g_sub [] rfl K_99
                          · have h := ift hc_109 h
                            refine g_aload_n X dL_sorts_292 rfl 1 rfl ?_
                            refine g_bipush X dL_sorts_293 (v := (15 : Int32)) (by decide) ?_
                            refine g_iload_n X dL_sorts_295 rfl 2 rfl ?_
                            refine g_iconst X dL_sorts_296 (v := (0 : Int32)) (by decide) ?_
                            refine g_iconst X dL_sorts_297 (v := (0 : Int32)) (by decide) ?_
                            obtain ⟨r_111, σ_112, hf_110, h⟩ := bnd2_some h
                            refine h_callIT (As := [.ref (A 0), .int (15 : Int32), .int a2, .int (0 : Int32), .int (0 : Int32)]) (Wf := lWf cy A aK B X8) (ws9 := (lW cy A aK B X8 σ_112 ρ_68)) X (ZL_ok _ _ _ _ _ _ _ _) (m_L_done hl hf_110) (vx_cwSW 5 X.1.2.2.2.2 gZL_sorts_L_done rfl rfl rfl (by decide +kernel) ⟨Nat.le_of_ble_eq_true rfl, Nat.le_of_ble_eq_true rfl⟩) rfl rfl (Nat.le_of_ble_eq_true rfl) ⟨by decide, by decide⟩ dL_sorts_298 rfl rfl (k' := 3) (n' := 18) (by decide) (by decide) ?_
                            refine g_aload X dL_sorts_301 4 rfl ?_
                            refine g_iconst X dL_sorts_303 (v := (0 : Int32)) (by decide) ?_
                            refine h_aald X h5 (k9 := 0) (by decide) (by decide) (by decide) dL_sorts_304 ?_
                            refine g_iload X dL_sorts_305 5 rfl ?_
                            refine g_iconst X dL_sorts_307 (v := (1 : Int32)) (by decide) ?_
                            refine g_isub X dL_sorts_308 ?_
                            refine g_iconst X dL_sorts_309 (v := (2 : Int32)) (by decide) ?_
                            refine g_idiv X dL_sorts_310 (by decide) ?_
                            obtain ⟨hg_113, h⟩ := grd_some h
                            refine h_gld X (isGr.mk h5 (k9 := 0) (by decide)) (k9 := ((r_2 - (1 : Int32)) / (2 : Int32)).toNatClampNeg) hg_113 rfl dL_sorts_311 ?_
                            refine g_icmp_ne X (tgt := 319) dL_sorts_312 (by decide) (fun hc_114 => ?_) (fun hc_114 => ?_)
                            · have h := iff_ hc_114 h
                              refine g_iconst X dL_sorts_319 (v := (0 : Int32)) (by decide) ?_
                              cases h
                              exact g_sub [] rfl K_99
                            · have h := ift hc_114 h
                              refine g_iconst X dL_sorts_315 (v := (1 : Int32)) (by decide) ?_
                              refine g_goto X (tgt := 320) dL_sorts_316 (by decide) ?_
                              cases h
                              exact g_sub [] rfl K_99
            have h := hj_118
            clear hj_118
            refine g_icmp_ne X (tgt := 239) dL_sorts_171 (by decide) (fun hc_65 => ?_) (fun hc_65 => ?_)
            · have h := iff_ hc_65 h
              refine g_iconst X dL_sorts_239 (v := (0 : Int32)) (by decide) ?_
              cases h
              refine g_wid (k' := 2) (n' := 12) (by decide) (by decide) ?_
              exact g_sub [1, 2, 3, 5, 8] rfl K_69
            · have h := ift hc_65 h
              refine g_aload_n X dL_sorts_174 rfl 1 rfl ?_
              refine g_iload_n X dL_sorts_175 rfl 2 rfl ?_
              refine g_aload X dL_sorts_176 6 rfl ?_
              obtain ⟨r_71, ρ_72, hf_70, h⟩ := bnd2_some h
              refine h_callI (As := [.ref (A 0), .int a2, .ref (B (1 + a6))]) (Wf := lWf cy A aK B X8) (ws9 := (lW cy A aK B X8 σ_64 ρ_72)) X (ZL_ok _ _ _ _ _ _ _ _) (m_L_sees h6 hl hf_70) (va_cwS 3 X.1.2.2.2.2 gZL_sorts_L_sees rfl rfl rfl (by decide +kernel) ⟨Nat.le_of_ble_eq_true rfl, Nat.le_of_ble_eq_true rfl⟩) rfl rfl (Nat.le_of_ble_eq_true rfl) ⟨by decide, by decide⟩ dL_sorts_178 rfl rfl (k' := 1) (n' := 6) (by decide) (by decide) ?_
              refine g_iload X dL_sorts_181 8 rfl ?_
              refine g_icmp_ne X (tgt := 239) dL_sorts_183 (by decide) (fun hc_73 => ?_) (fun hc_73 => ?_)
              · have h := iff_ hc_73 h
                refine g_iconst X dL_sorts_239 (v := (0 : Int32)) (by decide) ?_
                cases h
                refine g_wid (k' := 2) (n' := 12) (by decide) (by decide) ?_
                exact g_sub [1, 2, 3, 5, 8] rfl K_69
              · have h := ift hc_73 h
                refine g_aload X dL_sorts_186 5 rfl ?_
                refine g_aload X dL_sorts_188 6 rfl ?_
                refine g_iload X dL_sorts_190 8 rfl ?_
                obtain ⟨r_75, hf_74, h⟩ := bnd_some h
                refine h_callI (As := [.ref (B (1 + a5)), .ref (B (1 + a6)), .int r_2]) (Wf := lWf cy A aK B X8) (ws9 := (lW cy A aK B X8 σ_64 ρ_72)) X (ZL_ok _ _ _ _ _ _ _ _) (m_L_isLike h5 h6 hf_74) (va_cwS 3 X.1.2.2.2.2 gZL_sorts_L_isLike rfl rfl rfl (by decide +kernel) ⟨Nat.le_of_ble_eq_true rfl, Nat.le_of_ble_eq_true rfl⟩) rfl rfl (Nat.le_of_ble_eq_true rfl) ⟨by decide, by decide⟩ dL_sorts_192 rfl rfl (k' := 1) (n' := 6) (by decide) (by decide) ?_
                refine g_if_eq X (tgt := 239) dL_sorts_195 (by decide) (fun hc_76 => ?_) (fun hc_76 => ?_)
                · have h := ift hc_76 h
                  refine g_iconst X dL_sorts_239 (v := (0 : Int32)) (by decide) ?_
                  cases h
                  refine g_wid (k' := 2) (n' := 12) (by decide) (by decide) ?_
                  exact g_sub [1, 2, 3, 5, 8] rfl K_69
                · have h := iff_ hc_76 h
                  refine g_aload_n X dL_sorts_198 rfl 1 rfl ?_
                  refine g_iload_n X dL_sorts_199 rfl 3 rfl ?_
                  refine g_iload_n X dL_sorts_200 rfl 2 rfl ?_
                  refine g_iload X dL_sorts_201 9 rfl ?_
                  refine g_iload X dL_sorts_203 10 rfl ?_
                  obtain ⟨r_78, σ_79, hf_77, h⟩ := bnd2_some h
                  refine h_callIT (As := [.ref (A 0), .int a3, .int a2, .int v_9, .int v_17]) (Wf := lWf cy A aK B X8) (ws9 := (lW cy A aK B X8 σ_79 ρ_72)) X (ZL_ok _ _ _ _ _ _ _ _) (m_L_done hl hf_77) (vx_cwSW 5 X.1.2.2.2.2 gZL_sorts_L_done rfl rfl rfl (by decide +kernel) ⟨Nat.le_of_ble_eq_true rfl, Nat.le_of_ble_eq_true rfl⟩) rfl rfl (Nat.le_of_ble_eq_true rfl) ⟨by decide, by decide⟩ dL_sorts_205 rfl rfl (k' := 2) (n' := 12) (by decide) (by decide) ?_
                  refine g_if_ne X (tgt := 239) dL_sorts_208 (by decide) (fun hc_80 => ?_) (fun hc_80 => ?_)
                  · have h := iff_ hc_80 h
                    refine g_iconst X dL_sorts_239 (v := (0 : Int32)) (by decide) ?_
                    cases h
                    exact g_sub [1, 2, 3, 5, 8] rfl K_69
                  · have h := ift hc_80 h
                    refine g_aload_n X dL_sorts_211 rfl 1 rfl ?_
                    refine g_iload_n X dL_sorts_212 rfl 2 rfl ?_
                    refine g_aload X dL_sorts_213 6 rfl ?_
                    obtain ⟨r_82, ρ_83, hf_81, h⟩ := bnd2_some h
                    refine h_callI (As := [.ref (A 0), .int a2, .ref (B (1 + a6))]) (Wf := lWf cy A aK B X8) (ws9 := (lW cy A aK B X8 σ_79 ρ_83)) X (ZL_ok _ _ _ _ _ _ _ _) (m_L_sees h6 hl hf_81) (va_cwS 3 X.1.2.2.2.2 gZL_sorts_L_sees rfl rfl rfl (by decide +kernel) ⟨Nat.le_of_ble_eq_true rfl, Nat.le_of_ble_eq_true rfl⟩) rfl rfl (Nat.le_of_ble_eq_true rfl) ⟨by decide, by decide⟩ dL_sorts_215 rfl rfl (k' := 2) (n' := 12) (by decide) (by decide) ?_
                    refine g_iload X dL_sorts_218 8 rfl ?_
                    refine g_icmp_ne X (tgt := 239) dL_sorts_220 (by decide) (fun hc_84 => ?_) (fun hc_84 => ?_)
                    · have h := iff_ hc_84 h
                      refine g_iconst X dL_sorts_239 (v := (0 : Int32)) (by decide) ?_
                      cases h
                      exact g_sub [1, 2, 3, 5, 8] rfl K_69
                    · have h := ift hc_84 h
                      refine g_aload X dL_sorts_223 5 rfl ?_
                      refine g_aload X dL_sorts_225 6 rfl ?_
                      refine g_iload X dL_sorts_227 8 rfl ?_
                      obtain ⟨r_86, hf_85, h⟩ := bnd_some h
                      refine h_callI (As := [.ref (B (1 + a5)), .ref (B (1 + a6)), .int r_2]) (Wf := lWf cy A aK B X8) (ws9 := (lW cy A aK B X8 σ_79 ρ_83)) X (ZL_ok _ _ _ _ _ _ _ _) (m_L_isLike h5 h6 hf_85) (va_cwS 3 X.1.2.2.2.2 gZL_sorts_L_isLike rfl rfl rfl (by decide +kernel) ⟨Nat.le_of_ble_eq_true rfl, Nat.le_of_ble_eq_true rfl⟩) rfl rfl (Nat.le_of_ble_eq_true rfl) ⟨by decide, by decide⟩ dL_sorts_229 rfl rfl (k' := 2) (n' := 12) (by decide) (by decide) ?_
                      refine g_if_eq X (tgt := 239) dL_sorts_232 (by decide) (fun hc_87 => ?_) (fun hc_87 => ?_)
                      · have h := ift hc_87 h
                        refine g_iconst X dL_sorts_239 (v := (0 : Int32)) (by decide) ?_
                        cases h
                        exact g_sub [1, 2, 3, 5, 8] rfl K_69
                      · have h := iff_ hc_87 h
                        refine g_iconst X dL_sorts_235 (v := (1 : Int32)) (by decide) ?_
                        refine g_goto X (tgt := 240) dL_sorts_236 (by decide) ?_
                        cases h
                        exact g_sub [1, 2, 3, 5, 8] rfl K_69
          have h := hj_119
          clear hj_119
          refine g_icmp_ne X (tgt := 94) dL_sorts_87 (by decide) (fun hc_28 => ?_) (fun hc_28 => ?_)
          · have h := iff_ hc_28 h
            refine g_iload_n X dL_sorts_94 rfl 3 rfl ?_
            refine g_iconst X dL_sorts_95 (v := (4 : Int32)) (by decide) ?_
            refine g_icmp_ne X (tgt := 103) dL_sorts_96 (by decide) (fun hc_31 => ?_) (fun hc_31 => ?_)
            · have h := iff_ hc_31 h
              refine g_iload_n X dL_sorts_103 rfl 3 rfl ?_
              refine g_iconst X dL_sorts_104 (v := (5 : Int32)) (by decide) ?_
              refine g_icmp_ne X (tgt := 112) dL_sorts_105 (by decide) (fun hc_32 => ?_) (fun hc_32 => ?_)
              · have h := iff_ hc_32 h
                refine g_iconst X dL_sorts_112 (v := (0 : Int32)) (by decide) ?_
                cases h
                exact g_sub [1, 2, 3, 4, 5, 6, 7, 8, 9, 0] rfl K_30
              · have h := ift hc_32 h
                refine g_iconst X dL_sorts_108 (v := (3 : Int32)) (by decide) ?_
                refine g_goto X (tgt := 113) dL_sorts_109 (by decide) ?_
                cases h
                exact g_sub [1, 2, 3, 4, 5, 6, 7, 8, 9, 0] rfl K_30
            · have h := ift hc_31 h
              refine g_iconst X dL_sorts_99 (v := (2 : Int32)) (by decide) ?_
              refine g_goto X (tgt := 113) dL_sorts_100 (by decide) ?_
              cases h
              exact g_sub [1, 2, 3, 4, 5, 6, 7, 8, 9, 0] rfl K_30
          · have h := ift hc_28 h
            refine g_iconst X dL_sorts_90 (v := (1 : Int32)) (by decide) ?_
            refine g_goto X (tgt := 113) dL_sorts_91 (by decide) ?_
            cases h
            exact g_sub [1, 2, 3, 4, 5, 6, 7, 8, 9, 0] rfl K_30
        have h := hj_120
        clear hj_120
        refine g_if_eq X (tgt := 81) dL_sorts_48 (by decide) (fun hc_16 => ?_) (fun hc_16 => ?_)
        · have h := ift hc_16 h
          refine g_iload X dL_sorts_81 9 rfl ?_
          cases h
          exact g_sub [1, 3, 4, 5, 6, 7, 8, 9, 0] rfl K_19
        · have h := iff_ hc_16 h
          refine g_iload X dL_sorts_51 9 rfl ?_
          refine g_iload X dL_sorts_53 0 rfl ?_
          refine g_aload_n X dL_sorts_55 rfl 2 rfl ?_
          obtain ⟨r_21, ρ_22, hf_20, h⟩ := bnd2_some h
          refine h_callI (As := [.ref (B 0)]) (Wf := lWf cy A aK B X8) (ws9 := (lW cy A aK B X8 σ ρ_22)) X (ZL_ok _ _ _ _ _ _ _ _) (m_L_next hf_20) (va_cwS 1 X.1.2.2.2.2 gZL_sorts_L_next rfl rfl rfl (by decide +kernel) ⟨Nat.le_of_ble_eq_true rfl, Nat.le_of_ble_eq_true rfl⟩) rfl rfl (Nat.le_of_ble_eq_true rfl) ⟨by decide, by decide⟩ dL_sorts_56 rfl rfl (k' := 0) (n' := 0) (by decide) (by decide) ?_
          refine g_iload_n X dL_sorts_59 rfl 4 rfl ?_
          refine g_iconst X dL_sorts_60 (v := (3 : Int32)) (by decide) ?_
          obtain ⟨v_24, hj_27, h⟩ := bnd_some h
          have K_25 : gG p l e rmL_sorts s m args below meth c D (cyT cy) B9 15 (lIe (lWf cy A aK B X8) D (cyT cy) B9 below args s r (σ', ρ') 3 18) (lW cy A aK B X8 σ ρ_22) 0 0 73 [(0, .ref (A 0)), (2, .int a2), (3, .int a3), (4, .ref (B (1 + a4))), (5, .ref (B (1 + a5))), (6, .ref (B (1 + a6))), (7, .ref (B 13)), (8, .int r_2), (10, .int v_9)] [.int v_24, .int r_21, .int v_9, .int r_2] := by
            obtain ⟨hg_26, h⟩ := grd_some h
            refine g_irem X dL_sorts_73 hg_26 ?_
            refine g_iadd X dL_sorts_74 ?_
            refine g_min X lk0 lk1 lk2 lk3 (by decide) (Nat.le_of_ble_eq_true rfl) ⟨by decide, by decide⟩ dL_sorts_75 ?_
            refine g_goto X (tgt := 83) dL_sorts_78 (by decide) ?_
            cases h
            exact g_sub [0, 1, 2, 3, 4, 5, 6, 7, 8] rfl K_19
          have h := hj_27
          clear hj_27
          refine g_icmp_ne X (tgt := 69) dL_sorts_61 (by decide) (fun hc_23 => ?_) (fun hc_23 => ?_)
          · have h := iff_ hc_23 h
            refine g_iload X dL_sorts_69 9 rfl ?_
            refine g_iconst X dL_sorts_71 (v := (1 : Int32)) (by decide) ?_
            refine g_iadd X dL_sorts_72 ?_
            cases h
            exact g_sub [1, 3, 4, 5, 6, 7, 8, 9, 0] rfl K_25
          · have h := ift hc_23 h
            refine g_bipush X dL_sorts_64 (v := (32 : Int32)) (by decide) ?_
            refine g_goto X (tgt := 73) dL_sorts_66 (by decide) ?_
            cases h
            exact g_sub [1, 3, 4, 5, 6, 7, 8, 9, 0] rfl K_25
      have h := hj_121
      clear hj_121
      refine g_if_eq X (tgt := 43) dL_sorts_28 (by decide) (fun hc_8 => ?_) (fun hc_8 => ?_)
      · have h := ift hc_8 h
        refine g_iconst X dL_sorts_43 (v := (0 : Int32)) (by decide) ?_
        cases h
        exact g_sub [1, 2, 3, 4, 5, 6, 7, 8, 9, 0] rfl K_11
      · have h := iff_ hc_8 h
        refine g_aload_n X dL_sorts_31 rfl 2 rfl ?_
        obtain ⟨r_13, ρ_14, hf_12, h⟩ := bnd2_some h
        refine h_callI (As := [.ref (B 0)]) (Wf := lWf cy A aK B X8) (ws9 := (lW cy A aK B X8 σ ρ_14)) X (ZL_ok _ _ _ _ _ _ _ _) (m_L_next hf_12) (va_cwS 1 X.1.2.2.2.2 gZL_sorts_L_next rfl rfl rfl (by decide +kernel) ⟨Nat.le_of_ble_eq_true rfl, Nat.le_of_ble_eq_true rfl⟩) rfl rfl (Nat.le_of_ble_eq_true rfl) ⟨by decide, by decide⟩ dL_sorts_32 rfl rfl (k' := 0) (n' := 0) (by decide) (by decide) ?_
        refine g_iload X dL_sorts_35 9 rfl ?_
        refine g_iconst X dL_sorts_37 (v := (1 : Int32)) (by decide) ?_
        refine g_iadd X dL_sorts_38 ?_
        obtain ⟨hg_15, h⟩ := grd_some h
        refine g_irem X dL_sorts_39 hg_15 ?_
        refine g_goto X (tgt := 44) dL_sorts_40 (by decide) ?_
        cases h
        exact g_sub [1, 2, 3, 4, 5, 6, 7, 8, 9, 0] rfl K_11
    have h := hj_122
    clear hj_122
    refine g_icmp_eq X (tgt := 19) dL_sorts_11 (by decide) (fun hc_4 => ?_) (fun hc_4 => ?_)
    · have h := ift hc_4 h
      refine g_iconst X dL_sorts_19 (v := (1 : Int32)) (by decide) ?_
      refine g_goto X (tgt := 24) dL_sorts_20 (by decide) ?_
      cases h
      exact g_sub [1, 2, 3, 4, 5, 6, 7, 8, 0] rfl K_6
    · have h := iff_ hc_4 h
      refine g_iload_n X dL_sorts_14 rfl 4 rfl ?_
      refine g_iconst X dL_sorts_15 (v := (3 : Int32)) (by decide) ?_
      refine g_icmp_ne X (tgt := 23) dL_sorts_16 (by decide) (fun hc_7 => ?_) (fun hc_7 => ?_)
      · have h := iff_ hc_7 h
        refine g_iconst X dL_sorts_23 (v := (0 : Int32)) (by decide) ?_
        cases h
        exact g_sub [1, 2, 3, 4, 5, 6, 7, 8, 0] rfl K_6
      · have h := ift hc_7 h
        refine g_iconst X dL_sorts_19 (v := (1 : Int32)) (by decide) ?_
        refine g_goto X (tgt := 24) dL_sorts_20 (by decide) ?_
        cases h
        exact g_sub [1, 2, 3, 4, 5, 6, 7, 8, 0] rfl K_6
  exact K0
set_option maxHeartbeats 16000000 in
set_option maxRecDepth 100000 in
theorem m_L_sum {σ ρ : St} {a0 : Nat} {a1 : Int32} {r : Int64} (h0 : a0 < 3) (h : f_L_sum a0 a1 ρ = some r) : wL (ZL aK aO aS aV aT bS bV dA) D (cyT cy) l yL_sum wsL_sum rmL_sum (lWf cy A aK B X8) [.ref (B (1 + a0)), .int a1] (σ, ρ) r (σ, ρ) 0 0 := by
  unfold f_L_sum at h
  refine wL_of (cc := cL_sum) (maxL := 5) (ret := (some .long)) (by decide) rfl (Nat.le_of_ble_eq_true rfl) (fun p e s m args below meth c B9 X => ?_)
  have K0 : gG p l e rmL_sum s m args below meth c D (cyT cy) B9 5 (lLe (lWf cy A aK B X8) D (cyT cy) B9 below args s r (σ, ρ) 0 0) (lW cy A aK B X8 σ ρ) 0 0 0 [(0, .ref (B (1 + a0))), (1, .int a1)] [] := by
    refine g_lconst X dL_sum_0 (v := (0 : Int64)) (by decide) ?_
    refine g_lstore_n X dL_sum_1 rfl (by decide) (lv' := [(2, .long (0 : Int64)), (0, .ref (B (1 + a0))), (1, .int a1)]) rfl ?_
    refine g_iconst X dL_sum_2 (v := (0 : Int32)) (by decide) ?_
    refine g_istore X dL_sum_3 (by decide) (lv' := [(4, .int (0 : Int32)), (2, .long (0 : Int64)), (0, .ref (B (1 + a0))), (1, .int a1)]) rfl ?_
    have L_10 : ∀ (c_1 : Nat) (hp_2 : c_1 < 3) (c_3 : Int32) (σ_12 : St) (hz_14 : σ_12 = σ) (ρ_13 : St) (hz_15 : ρ_13 = ρ) (n_6 : Nat) (v_4 : Int64) (v_5 : Int32) (o_11 : Int64), f_L_sum_L5 c_1 c_3 ρ_13 n_6 v_4 v_5 = some (o_11) → gG p l e rmL_sum s m args below meth c D (cyT cy) B9 5 (lLe (lWf cy A aK B X8) D (cyT cy) B9 below args s r (σ, ρ) 0 0) (lW cy A aK B X8 σ_12 ρ_13) 0 0 35 [(2, .long o_11)] [] → gG p l e rmL_sum s m args below meth c D (cyT cy) B9 5 (lLe (lWf cy A aK B X8) D (cyT cy) B9 below args s r (σ, ρ) 0 0) (lW cy A aK B X8 σ_12 ρ_13) 0 0 5 [(0, .ref (B (1 + c_1))), (1, .int c_3), (2, .long v_4), (4, .int v_5)] [] := by
      intro c_1 hp_2 c_3 σ_12 hz_14 ρ_13 hz_15 n_6
      induction n_6 with
      | zero =>
        intro v_4 v_5 o_11 h K_8
        rw [f_L_sum_L5] at h
        cases h
      | succ n_6 ih_7 =>
        intro v_4 v_5 o_11 h K_8
        rw [f_L_sum_L5] at h
        refine g_iload X dL_sum_5 3 rfl ?_
        refine g_iload_n X dL_sum_7 rfl 1 rfl ?_
        refine g_icmp_ge X (tgt := 35) dL_sum_8 (by decide) (fun hc_16 => ?_) (fun hc_16 => ?_)
        · have h := ift hc_16 h
          cases h
          exact g_sub [2] rfl K_8
        · have h := iff_ hc_16 h
          refine g_lload_n X dL_sum_11 rfl 2 rfl ?_
          refine g_iload X dL_sum_12 3 rfl ?_
          refine g_i2l X dL_sum_14 ?_
          refine g_lconst X dL_sum_15 (v := (1 : Int64)) (by decide) ?_
          refine g_ladd X dL_sum_16 ?_
          refine g_aload_n X dL_sum_17 rfl 0 rfl ?_
          refine g_iconst X dL_sum_18 (v := (2 : Int32)) (by decide) ?_
          refine h_aald X hp_2 (k9 := 2) (by decide) (by decide) (by decide) dL_sum_19 ?_
          refine g_iload X dL_sum_20 3 rfl ?_
          obtain ⟨hg_17, h⟩ := grd_some h
          refine h_gld X (isGr.mk hp_2 (k9 := 2) (by decide)) (k9 := v_5.toNatClampNeg) hg_17 rfl dL_sum_22 ?_
          refine g_i2l X dL_sum_23 ?_
          refine g_lconst X dL_sum_24 (v := (1 : Int64)) (by decide) ?_
          refine g_ladd X dL_sum_25 ?_
          refine g_lmul X dL_sum_26 ?_
          refine g_ladd X dL_sum_27 ?_
          refine g_lstore_n X dL_sum_28 rfl (by decide) (lv' := [(2, .long (v_4 + ((v_5.toInt64 + (1 : Int64)) * (((gr ρ_13 (4 + 3 * c_1 + 2) v_5.toNatClampNeg).toInt64) + (1 : Int64))))), (0, .ref (B (1 + c_1))), (1, .int c_3), (4, .int v_5)]) rfl ?_
          refine g_iinc X dL_sum_29 3 rfl (v := v_5 + (1 : Int32)) rfl (by decide) (lv' := [(4, .int (v_5 + (1 : Int32))), (2, .long (v_4 + ((v_5.toInt64 + (1 : Int64)) * (((gr ρ_13 (4 + 3 * c_1 + 2) v_5.toNatClampNeg).toInt64) + (1 : Int64))))), (0, .ref (B (1 + c_1))), (1, .int c_3)]) rfl ?_
          refine g_goto X (tgt := 5) dL_sum_32 (by decide) ?_
          exact g_sub [2, 3, 1, 0] rfl (ih_7 _ _ _ h K_8)
    obtain ⟨o_11, hl_18, h⟩ := bnd_some h
    refine g_sub [2, 3, 1, 0] rfl (L_10 a0 h0 a1 σ rfl ρ rfl FU (0 : Int64) (0 : Int32) o_11 hl_18 ?_)
    refine g_lload_n X dL_sum_35 rfl 0 rfl ?_
    cases h
    exact g_lret (Wf := (lWf cy A aK B X8)) (u := (_, _)) X ⟨rfl, rfl⟩ dL_sum_36
  exact K0
set_option maxHeartbeats 16000000 in
set_option maxRecDepth 100000 in
theorem m_L_isBoth {σ ρ : St} {a1 : Int32} {a2 : Nat} {a3 : Nat} {r : Int32} {σ' : St} {ρ' : St} (h2 : a2 < 3) (h3 : a3 < 3) (hl : l.stackTraces = false) (h : f_L_isBoth a1 a2 a3 σ ρ = some (r, σ', ρ')) : wI (ZL aK aO aS aV aT bS bV dA) D (cyT cy) l yL_isBoth wzL_isBoth rmL_isBoth (lWf cy A aK B X8) [.ref (A 0), .int a1, .ref (B (1 + a2)), .ref (B (1 + a3)), .ref (B 13)] (σ, ρ) r (σ', ρ') 5 30 := by
  unfold f_L_isBoth at h
  refine wI_of (cc := cL_isBoth) (maxL := 10) (ret := (some .boolean)) (by decide) rfl (Nat.le_of_ble_eq_true rfl) (fun p e s m args below meth c B9 X => ?_)
  have K0 : gG p l e rmL_isBoth s m args below meth c D (cyT cy) B9 10 (lIe (lWf cy A aK B X8) D (cyT cy) B9 below args s r (σ', ρ') 5 30) (lW cy A aK B X8 σ ρ) 0 0 0 [(0, .ref (A 0)), (1, .int a1), (2, .ref (B (1 + a2))), (3, .ref (B (1 + a3))), (4, .ref (B 13))] [] := by
    refine g_aload_n X dL_isBoth_0 rfl 0 rfl ?_
    refine g_iload_n X dL_isBoth_1 rfl 1 rfl ?_
    refine g_aload_n X dL_isBoth_2 rfl 2 rfl ?_
    obtain ⟨r_2, ρ_3, hf_1, h⟩ := bnd2_some h
    refine h_callI (As := [.ref (A 0), .int a1, .ref (B (1 + a2))]) (Wf := lWf cy A aK B X8) (ws9 := (lW cy A aK B X8 σ ρ_3)) X (ZL_ok _ _ _ _ _ _ _ _) (m_L_sees h2 hl hf_1) (va_cwS 3 X.1.2.2.2.2 gZL_isBoth_L_sees rfl rfl rfl (by decide +kernel) ⟨Nat.le_of_ble_eq_true rfl, Nat.le_of_ble_eq_true rfl⟩) rfl rfl (Nat.le_of_ble_eq_true rfl) ⟨by decide, by decide⟩ dL_isBoth_3 rfl rfl (k' := 0) (n' := 0) (by decide) (by decide) ?_
    refine g_istore X dL_isBoth_6 (by decide) (lv' := [(5, .int r_2), (0, .ref (A 0)), (1, .int a1), (2, .ref (B (1 + a2))), (3, .ref (B (1 + a3))), (4, .ref (B 13))]) rfl ?_
    refine g_aload_n X dL_isBoth_8 rfl 1 rfl ?_
    refine g_bipush X dL_isBoth_9 (v := (12 : Int32)) (by decide) ?_
    refine g_iload_n X dL_isBoth_11 rfl 2 rfl ?_
    refine g_iconst X dL_isBoth_12 (v := (0 : Int32)) (by decide) ?_
    refine g_iconst X dL_isBoth_13 (v := (0 : Int32)) (by decide) ?_
    obtain ⟨r_5, σ_6, hf_4, h⟩ := bnd2_some h
    refine h_callIT (As := [.ref (A 0), .int (12 : Int32), .int a1, .int (0 : Int32), .int (0 : Int32)]) (Wf := lWf cy A aK B X8) (ws9 := (lW cy A aK B X8 σ_6 ρ_3)) X (ZL_ok _ _ _ _ _ _ _ _) (m_L_done hl hf_4) (vx_cwSW 5 X.1.2.2.2.2 gZL_isBoth_L_done rfl rfl rfl (by decide +kernel) ⟨Nat.le_of_ble_eq_true rfl, Nat.le_of_ble_eq_true rfl⟩) rfl rfl (Nat.le_of_ble_eq_true rfl) ⟨by decide, by decide⟩ dL_isBoth_14 rfl rfl (k' := 1) (n' := 6) (by decide) (by decide) ?_
    refine g_istore X dL_isBoth_17 (by decide) (lv' := [(6, .int r_5), (5, .int r_2), (0, .ref (A 0)), (1, .int a1), (2, .ref (B (1 + a2))), (3, .ref (B (1 + a3))), (4, .ref (B 13))]) rfl ?_
    refine g_aload_n X dL_isBoth_19 rfl 4 rfl ?_
    refine g_iconst X dL_isBoth_20 (v := (0 : Int32)) (by decide) ?_
    refine g_iload X dL_isBoth_21 1 rfl ?_
    refine g_iconst X dL_isBoth_23 (v := (3 : Int32)) (by decide) ?_
    refine g_aload_n X dL_isBoth_24 rfl 5 rfl ?_
    refine g_aload X dL_isBoth_25 6 rfl ?_
    obtain ⟨r_8, ρ_9, hf_7, h⟩ := bnd2_some h
    refine h_callI (As := [.ref (B (1 + a2)), .int (0 : Int32), .int r_2, .int (3 : Int32), .ref (B (1 + a3)), .ref (B 13)]) (Wf := lWf cy A aK B X8) (ws9 := (lW cy A aK B X8 σ_6 ρ_9)) X (ZL_ok _ _ _ _ _ _ _ _) (m_L_due h2 h3 hf_7) (va_cwS 6 X.1.2.2.2.2 gZL_isBoth_L_due rfl rfl rfl (by decide +kernel) ⟨Nat.le_of_ble_eq_true rfl, Nat.le_of_ble_eq_true rfl⟩) rfl rfl (Nat.le_of_ble_eq_true rfl) ⟨by decide, by decide⟩ dL_isBoth_27 rfl rfl (k' := 1) (n' := 6) (by decide) (by decide) ?_
    refine g_istore X dL_isBoth_30 (by decide) (lv' := [(7, .int r_8), (6, .int r_5), (5, .int r_2), (0, .ref (A 0)), (1, .int a1), (2, .ref (B (1 + a2))), (3, .ref (B (1 + a3))), (4, .ref (B 13))]) rfl ?_
    refine g_iload X dL_isBoth_32 1 rfl ?_
    refine g_iload X dL_isBoth_34 2 rfl ?_
    obtain ⟨v_11, σ_12, hj_70, h⟩ := bnd2_some h
    have K_13 : gG p l e rmL_isBoth s m args below meth c D (cyT cy) B9 10 (lIe (lWf cy A aK B X8) D (cyT cy) B9 below args s r (σ', ρ') 5 30) (lW cy A aK B X8 σ_12 ρ_9) 3 18 66 [(0, .ref (A 0)), (1, .int a1), (2, .ref (B (1 + a2))), (3, .ref (B (1 + a3))), (5, .int r_2), (7, .int r_8)] [.int v_11] := by
      refine g_istore X dL_isBoth_66 (by decide) (lv' := [(8, .int v_11), (0, .ref (A 0)), (1, .int a1), (2, .ref (B (1 + a2))), (3, .ref (B (1 + a3))), (5, .int r_2), (7, .int r_8)]) rfl ?_
      refine g_iconst X dL_isBoth_68 (v := (0 : Int32)) (by decide) ?_
      refine g_istore X dL_isBoth_69 (by decide) (lv' := [(9, .int (0 : Int32)), (8, .int v_11), (0, .ref (A 0)), (1, .int a1), (2, .ref (B (1 + a2))), (3, .ref (B (1 + a3))), (5, .int r_2), (7, .int r_8)]) rfl ?_
      have L_35 : ∀ (c_22 : Int32) (c_23 : Nat) (hp_24 : c_23 < 3) (c_25 : Nat) (hp_26 : c_25 < 3) (c_27 : Int32) (c_28 : Int32) (σ_37 : St) (hz_39 : σ_37 = σ_12) (ρ_38 : St) (hz_40 : ρ_38 = ρ_9) (n_31 : Nat) (v_29 : Int32) (v_30 : Int32) (o_36 : Int32), f_L_isBoth_L71 c_22 c_25 c_27 σ_37 ρ_38 n_31 v_29 v_30 = some (o_36) → gG p l e rmL_isBoth s m args below meth c D (cyT cy) B9 10 (lIe (lWf cy A aK B X8) D (cyT cy) B9 below args s r (σ', ρ') 5 30) (lW cy A aK B X8 σ_37 ρ_38) 3 18 113 [(0, .ref (A 0)), (1, .int c_22), (2, .ref (B (1 + c_23))), (5, .int c_27), (7, .int c_28), (8, .int o_36)] [] → gG p l e rmL_isBoth s m args below meth c D (cyT cy) B9 10 (lIe (lWf cy A aK B X8) D (cyT cy) B9 below args s r (σ', ρ') 5 30) (lW cy A aK B X8 σ_37 ρ_38) 3 18 71 [(0, .ref (A 0)), (1, .int c_22), (2, .ref (B (1 + c_23))), (3, .ref (B (1 + c_25))), (5, .int c_27), (7, .int c_28), (8, .int v_29), (9, .int v_30)] [] := by
        intro c_22 c_23 hp_24 c_25 hp_26 c_27 c_28 σ_37 hz_39 ρ_38 hz_40 n_31
        induction n_31 with
        | zero =>
          intro v_29 v_30 o_36 h K_33
          rw [f_L_isBoth_L71] at h
          cases h
        | succ n_31 ih_32 =>
          intro v_29 v_30 o_36 h K_33
          rw [f_L_isBoth_L71] at h
          refine g_iload X dL_isBoth_71 7 rfl ?_
          refine g_iload X dL_isBoth_73 4 rfl ?_
          refine g_icmp_ge X (tgt := 113) dL_isBoth_75 (by decide) (fun hc_41 => ?_) (fun hc_41 => ?_)
          · have h := ift hc_41 h
            cases h
            exact g_sub [0, 1, 2, 4, 5, 6] rfl K_33
          · have h := iff_ hc_41 h
            refine g_iload X dL_isBoth_78 6 rfl ?_
            refine g_if_eq X (tgt := 113) dL_isBoth_80 (by decide) (fun hc_42 => ?_) (fun hc_42 => ?_)
            · have h := ift hc_42 h
              cases h
              exact g_sub [0, 1, 2, 4, 5, 6] rfl K_33
            · have h := iff_ hc_42 h
              refine g_aload_n X dL_isBoth_83 rfl 0 rfl ?_
              refine g_iload_n X dL_isBoth_84 rfl 1 rfl ?_
              refine g_iload X dL_isBoth_85 7 rfl ?_
              refine g_iconst X dL_isBoth_87 (v := (2 : Int32)) (by decide) ?_
              obtain ⟨r_44, hf_43, h⟩ := bndQ_some h
              refine g_xVI_ret (AD := A) (As := [.int c_22, .int v_30, .int (2 : Int32)]) X (ZL_ok _ _ _ _ _ _ _ _) (xI_up (m_X10_cardAt hl hf_43)) (cwV 3 X.1.2.2.2.2 gZL_isBoth_X10_cardAt rfl rfl rfl (by decide +kernel) ⟨Nat.le_of_ble_eq_true rfl, Nat.le_of_ble_eq_true rfl⟩) rfl cm0 (cE_0 cy A aK σ_37) rfl rfl (Nat.le_of_ble_eq_true rfl) ⟨Nat.le_of_ble_eq_true rfl, Nat.le_of_ble_eq_true rfl⟩ dL_isBoth_88 (k' := 3) (n' := 18) (thrC_k _ _) (thrS_k _ _) ?_
              refine g_aload_n X dL_isBoth_91 rfl 3 rfl ?_
              refine g_iconst X dL_isBoth_92 (v := (2 : Int32)) (by decide) ?_
              refine h_aald X hp_26 (k9 := 2) (by decide) (by decide) (by decide) dL_isBoth_93 ?_
              refine g_iload X dL_isBoth_94 7 rfl ?_
              obtain ⟨hg_45, h⟩ := grd_some h
              refine h_gld X (isGr.mk hp_26 (k9 := 2) (by decide)) (k9 := v_30.toNatClampNeg) hg_45 rfl dL_isBoth_96 ?_
              obtain ⟨v_47, hj_49, h⟩ := bnd_some h
              have K_48 : gG p l e rmL_isBoth s m args below meth c D (cyT cy) B9 10 (lIe (lWf cy A aK B X8) D (cyT cy) B9 below args s r (σ', ρ') 5 30) (lW cy A aK B X8 σ_37 ρ_38) 3 18 105 [(0, .ref (A 0)), (1, .int c_22), (2, .ref (B (1 + c_23))), (3, .ref (B (1 + c_25))), (5, .int c_27), (7, .int c_28), (9, .int v_30)] [.int v_47] := by
                refine g_istore X dL_isBoth_105 (by decide) (lv' := [(8, .int v_47), (0, .ref (A 0)), (1, .int c_22), (2, .ref (B (1 + c_23))), (3, .ref (B (1 + c_25))), (5, .int c_27), (7, .int c_28), (9, .int v_30)]) rfl ?_
                refine g_iinc X dL_isBoth_107 7 rfl (v := v_30 + (1 : Int32)) rfl (by decide) (lv' := [(9, .int (v_30 + (1 : Int32))), (8, .int v_47), (0, .ref (A 0)), (1, .int c_22), (2, .ref (B (1 + c_23))), (3, .ref (B (1 + c_25))), (5, .int c_27), (7, .int c_28)]) rfl ?_
                refine g_goto X (tgt := 71) dL_isBoth_110 (by decide) ?_
                exact g_sub [2, 3, 4, 5, 6, 7, 1, 0] rfl (ih_32 _ _ _ h K_33)
              have h := hj_49
              clear hj_49
              refine g_icmp_ne X (tgt := 104) dL_isBoth_97 (by decide) (fun hc_46 => ?_) (fun hc_46 => ?_)
              · have h := iff_ hc_46 h
                refine g_iconst X dL_isBoth_104 (v := (0 : Int32)) (by decide) ?_
                cases h
                exact g_sub [0, 1, 2, 3, 4, 5, 7] rfl K_48
              · have h := ift hc_46 h
                refine g_iconst X dL_isBoth_100 (v := (1 : Int32)) (by decide) ?_
                refine g_goto X (tgt := 105) dL_isBoth_101 (by decide) ?_
                cases h
                exact g_sub [0, 1, 2, 3, 4, 5, 7] rfl K_48
      obtain ⟨o_36, hl_50, h⟩ := bnd_some h
      refine g_sub [2, 3, 4, 5, 6, 7, 1, 0] rfl (L_35 a1 a2 h2 a3 h3 r_2 r_8 σ_12 rfl ρ_9 rfl FU v_11 (0 : Int32) o_36 hl_50 ?_)
      refine g_iload X dL_isBoth_113 5 rfl ?_
      obtain ⟨v_52, σ_53, hj_69, h⟩ := bnd2_some h
      have K_54 : gG p l e rmL_isBoth s m args below meth c D (cyT cy) B9 10 (lIe (lWf cy A aK B X8) D (cyT cy) B9 below args s r (σ', ρ') 5 30) (lW cy A aK B X8 σ_53 ρ_9) 5 30 163 [] [.int v_52] := by
        obtain ⟨hg_68, h⟩ := grd_some h
        cases h
        exact g_zret (Wf := (lWf cy A aK B X8)) (u := (_, _)) X (nar01 hg_68) ⟨rfl, rfl⟩ dL_isBoth_163
      have h := hj_69
      clear hj_69
      refine g_if_eq X (tgt := 162) dL_isBoth_115 (by decide) (fun hc_51 => ?_) (fun hc_51 => ?_)
      · have h := ift hc_51 h
        refine g_iconst X dL_isBoth_162 (v := (0 : Int32)) (by decide) ?_
        cases h
        refine g_wid (k' := 5) (n' := 30) (by decide) (by decide) ?_
        exact g_sub [] rfl K_54
      · have h := iff_ hc_51 h
        refine g_aload_n X dL_isBoth_118 rfl 0 rfl ?_
        refine g_iconst X dL_isBoth_119 (v := (5 : Int32)) (by decide) ?_
        refine g_iload_n X dL_isBoth_120 rfl 1 rfl ?_
        refine g_iconst X dL_isBoth_121 (v := (0 : Int32)) (by decide) ?_
        refine g_iconst X dL_isBoth_122 (v := (0 : Int32)) (by decide) ?_
        obtain ⟨r_56, σ_57, hf_55, h⟩ := bnd2_some h
        refine h_callIT (As := [.ref (A 0), .int (5 : Int32), .int a1, .int (0 : Int32), .int (0 : Int32)]) (Wf := lWf cy A aK B X8) (ws9 := (lW cy A aK B X8 σ_57 ρ_9)) X (ZL_ok _ _ _ _ _ _ _ _) (m_L_done hl hf_55) (vx_cwSW 5 X.1.2.2.2.2 gZL_isBoth_L_done rfl rfl rfl (by decide +kernel) ⟨Nat.le_of_ble_eq_true rfl, Nat.le_of_ble_eq_true rfl⟩) rfl rfl (Nat.le_of_ble_eq_true rfl) ⟨by decide, by decide⟩ dL_isBoth_123 rfl rfl (k' := 4) (n' := 24) (by decide) (by decide) ?_
        refine g_if_ne X (tgt := 162) dL_isBoth_126 (by decide) (fun hc_58 => ?_) (fun hc_58 => ?_)
        · have h := iff_ hc_58 h
          refine g_iconst X dL_isBoth_162 (v := (0 : Int32)) (by decide) ?_
          cases h
          refine g_wid (k' := 5) (n' := 30) (by decide) (by decide) ?_
          exact g_sub [] rfl K_54
        · have h := ift hc_58 h
          refine g_aload_n X dL_isBoth_129 rfl 0 rfl ?_
          refine g_bipush X dL_isBoth_130 (v := (13 : Int32)) (by decide) ?_
          refine g_iload_n X dL_isBoth_132 rfl 1 rfl ?_
          refine g_iconst X dL_isBoth_133 (v := (0 : Int32)) (by decide) ?_
          refine g_iconst X dL_isBoth_134 (v := (0 : Int32)) (by decide) ?_
          obtain ⟨r_60, σ_61, hf_59, h⟩ := bnd2_some h
          refine h_callIT (As := [.ref (A 0), .int (13 : Int32), .int a1, .int (0 : Int32), .int (0 : Int32)]) (Wf := lWf cy A aK B X8) (ws9 := (lW cy A aK B X8 σ_61 ρ_9)) X (ZL_ok _ _ _ _ _ _ _ _) (m_L_done hl hf_59) (vx_cwSW 5 X.1.2.2.2.2 gZL_isBoth_L_done rfl rfl rfl (by decide +kernel) ⟨Nat.le_of_ble_eq_true rfl, Nat.le_of_ble_eq_true rfl⟩) rfl rfl (Nat.le_of_ble_eq_true rfl) ⟨by decide, by decide⟩ dL_isBoth_135 rfl rfl (k' := 5) (n' := 30) (by decide) (by decide) ?_
          refine g_iload X dL_isBoth_138 4 rfl ?_
          refine g_icmp_ne X (tgt := 162) dL_isBoth_140 (by decide) (fun hc_62 => ?_) (fun hc_62 => ?_)
          · have h := iff_ hc_62 h
            refine g_iconst X dL_isBoth_162 (v := (0 : Int32)) (by decide) ?_
            cases h
            exact g_sub [] rfl K_54
          · have h := ift hc_62 h
            refine g_aload_n X dL_isBoth_143 rfl 0 rfl ?_
            refine g_iload_n X dL_isBoth_144 rfl 1 rfl ?_
            obtain ⟨r_64, hf_63, h⟩ := bndQ_some h
            refine g_xVL_ret (AD := A) (As := [.int a1]) X (ZL_ok _ _ _ _ _ _ _ _) (xL_up (m_X10_sum hl hf_63)) (cwV 1 X.1.2.2.2.2 gZL_isBoth_X10_sum rfl rfl rfl (by decide +kernel) ⟨Nat.le_of_ble_eq_true rfl, Nat.le_of_ble_eq_true rfl⟩) rfl cm0 (cE_0 cy A aK σ_61) rfl rfl (Nat.le_of_ble_eq_true rfl) ⟨Nat.le_of_ble_eq_true rfl, Nat.le_of_ble_eq_true rfl⟩ dL_isBoth_145 (k' := 5) (n' := 30) (thrC_k _ _) (thrS_k _ _) ?_
            refine g_aload_n X dL_isBoth_148 rfl 2 rfl ?_
            refine g_iload X dL_isBoth_149 3 rfl ?_
            obtain ⟨r_66, hf_65, h⟩ := bnd_some h
            refine h_callL (As := [.ref (B (1 + a2)), .int r_2]) (Wf := lWf cy A aK B X8) (ws9 := (lW cy A aK B X8 σ_61 ρ_9)) X (ZL_ok _ _ _ _ _ _ _ _) (m_L_sum h2 hf_65) (va_cwS 2 X.1.2.2.2.2 gZL_isBoth_L_sum rfl rfl rfl (by decide +kernel) ⟨Nat.le_of_ble_eq_true rfl, Nat.le_of_ble_eq_true rfl⟩) rfl rfl (Nat.le_of_ble_eq_true rfl) ⟨by decide, by decide⟩ dL_isBoth_151 rfl rfl (k' := 5) (n' := 30) (by decide) (by decide) ?_
            refine g_lcmp X dL_isBoth_154 ?_
            refine g_if_ne X (tgt := 162) dL_isBoth_155 (by decide) (fun hc_67 => ?_) (fun hc_67 => ?_)
            · have h := iff_ hc_67 h
              refine g_iconst X dL_isBoth_162 (v := (0 : Int32)) (by decide) ?_
              cases h
              exact g_sub [] rfl K_54
            · have h := ift hc_67 h
              refine g_iconst X dL_isBoth_158 (v := (1 : Int32)) (by decide) ?_
              refine g_goto X (tgt := 163) dL_isBoth_159 (by decide) ?_
              cases h
              exact g_sub [] rfl K_54
    have h := hj_70
    clear hj_70
    refine g_icmp_ne X (tgt := 65) dL_isBoth_36 (by decide) (fun hc_10 => ?_) (fun hc_10 => ?_)
    · have h := iff_ hc_10 h
      refine g_iconst X dL_isBoth_65 (v := (0 : Int32)) (by decide) ?_
      cases h
      refine g_wid (k' := 3) (n' := 18) (by decide) (by decide) ?_
      exact g_sub [3, 4, 5, 6, 2, 0] rfl K_13
    · have h := ift hc_10 h
      refine g_aload_n X dL_isBoth_39 rfl 3 rfl ?_
      refine g_iconst X dL_isBoth_40 (v := (4 : Int32)) (by decide) ?_
      refine g_iload_n X dL_isBoth_41 rfl 4 rfl ?_
      refine g_iconst X dL_isBoth_42 (v := (0 : Int32)) (by decide) ?_
      refine g_iconst X dL_isBoth_43 (v := (0 : Int32)) (by decide) ?_
      obtain ⟨r_15, σ_16, hf_14, h⟩ := bnd2_some h
      refine h_callIT (As := [.ref (A 0), .int (4 : Int32), .int a1, .int (0 : Int32), .int (0 : Int32)]) (Wf := lWf cy A aK B X8) (ws9 := (lW cy A aK B X8 σ_16 ρ_9)) X (ZL_ok _ _ _ _ _ _ _ _) (m_L_done hl hf_14) (vx_cwSW 5 X.1.2.2.2.2 gZL_isBoth_L_done rfl rfl rfl (by decide +kernel) ⟨Nat.le_of_ble_eq_true rfl, Nat.le_of_ble_eq_true rfl⟩) rfl rfl (Nat.le_of_ble_eq_true rfl) ⟨by decide, by decide⟩ dL_isBoth_44 rfl rfl (k' := 2) (n' := 12) (by decide) (by decide) ?_
      refine g_if_lt X (tgt := 65) dL_isBoth_47 (by decide) (fun hc_17 => ?_) (fun hc_17 => ?_)
      · have h := ift hc_17 h
        refine g_iconst X dL_isBoth_65 (v := (0 : Int32)) (by decide) ?_
        cases h
        refine g_wid (k' := 3) (n' := 18) (by decide) (by decide) ?_
        exact g_sub [3, 4, 5, 6, 2, 0] rfl K_13
      · have h := iff_ hc_17 h
        refine g_aload_n X dL_isBoth_50 rfl 3 rfl ?_
        refine g_iconst X dL_isBoth_51 (v := (1 : Int32)) (by decide) ?_
        refine g_iload_n X dL_isBoth_52 rfl 4 rfl ?_
        refine g_iconst X dL_isBoth_53 (v := (0 : Int32)) (by decide) ?_
        refine g_iconst X dL_isBoth_54 (v := (0 : Int32)) (by decide) ?_
        obtain ⟨r_19, σ_20, hf_18, h⟩ := bnd2_some h
        refine h_callIT (As := [.ref (A 0), .int (1 : Int32), .int a1, .int (0 : Int32), .int (0 : Int32)]) (Wf := lWf cy A aK B X8) (ws9 := (lW cy A aK B X8 σ_20 ρ_9)) X (ZL_ok _ _ _ _ _ _ _ _) (m_L_done hl hf_18) (vx_cwSW 5 X.1.2.2.2.2 gZL_isBoth_L_done rfl rfl rfl (by decide +kernel) ⟨Nat.le_of_ble_eq_true rfl, Nat.le_of_ble_eq_true rfl⟩) rfl rfl (Nat.le_of_ble_eq_true rfl) ⟨by decide, by decide⟩ dL_isBoth_55 rfl rfl (k' := 3) (n' := 18) (by decide) (by decide) ?_
        refine g_if_lt X (tgt := 65) dL_isBoth_58 (by decide) (fun hc_21 => ?_) (fun hc_21 => ?_)
        · have h := ift hc_21 h
          refine g_iconst X dL_isBoth_65 (v := (0 : Int32)) (by decide) ?_
          cases h
          exact g_sub [3, 4, 5, 6, 2, 0] rfl K_13
        · have h := iff_ hc_21 h
          refine g_iconst X dL_isBoth_61 (v := (1 : Int32)) (by decide) ?_
          refine g_goto X (tgt := 66) dL_isBoth_62 (by decide) ?_
          cases h
          exact g_sub [3, 4, 5, 6, 2, 0] rfl K_13
  exact K0
end LV
