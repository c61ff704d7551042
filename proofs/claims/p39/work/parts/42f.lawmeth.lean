section LV
variable {D : va_G} {cy : Nat → ClassId} {A aK aO aS aV aT bS bV dA B : Nat → Nat} {l : Launch} {X8 : va_W}
set_option maxHeartbeats 16000000 in
set_option maxRecDepth 100000 in
theorem m_L_comes {σ ρ : St} {a2 : Int32} {r : Int32} {σ' : St} {ρ' : St} (hl : l.stackTraces = false) (h : f_L_comes a2 σ ρ = some (r, σ', ρ')) : wI (ZL aK aO aS aV aT bS bV dA) D (cyT cy) l yL_comes wzL_comes rmL_comes (lWf cy A aK B X8) [.ref (A 0), .ref (B 0), .int a2] (σ, ρ) r (σ', ρ') 3 18 := by
  unfold f_L_comes at h
  refine wI_of (cc := cL_comes) (maxL := 8) (ret := (some .boolean)) (by decide) rfl (Nat.le_of_ble_eq_true rfl) (fun p e s m args below meth c B9 X => ?_)
  have K0 : gG p l e rmL_comes s m args below meth c D (cyT cy) B9 8 (lIe (lWf cy A aK B X8) D (cyT cy) B9 below args s r (σ', ρ') 3 18) (lW cy A aK B X8 σ ρ) 0 0 0 [(0, .ref (A 0)), (1, .ref (B 0)), (2, .int a2)] [] := by
    refine g_aload_n X dL_comes_0 rfl 1 rfl ?_
    refine g_bipush X dL_comes_1 (v := (-40 : Int32)) (by decide) ?_
    refine g_bipush X dL_comes_3 (v := (80 : Int32)) (by decide) ?_
    obtain ⟨r_2, ρ_3, hf_1, h⟩ := bnd2_some h
    refine h_callI (As := [.ref (B 0), .int (-40 : Int32), .int (80 : Int32)]) (Wf := lWf cy A aK B X8) (ws9 := (lW cy A aK B X8 σ ρ_3)) X (ZL_ok _ _ _ _ _ _ _ _) (m_L_from hf_1) (va_cwS 3 X.1.2.2.2.2 gZL_comes_L_from rfl rfl rfl (by decide +kernel) ⟨Nat.le_of_ble_eq_true rfl, Nat.le_of_ble_eq_true rfl⟩) rfl rfl (Nat.le_of_ble_eq_true rfl) ⟨by decide, by decide⟩ dL_comes_5 rfl rfl (k' := 0) (n' := 0) (by decide) (by decide) ?_
    refine g_istore_n X dL_comes_8 rfl (by decide) (lv' := [(3, .int r_2), (0, .ref (A 0)), (1, .ref (B 0)), (2, .int a2)]) rfl ?_
    refine g_aload_n X dL_comes_9 rfl 1 rfl ?_
    refine g_bipush X dL_comes_10 (v := (14 : Int32)) (by decide) ?_
    refine g_iload_n X dL_comes_12 rfl 3 rfl ?_
    refine g_iload_n X dL_comes_13 rfl 0 rfl ?_
    refine g_iconst X dL_comes_14 (v := (0 : Int32)) (by decide) ?_
    obtain ⟨r_5, σ_6, hf_4, h⟩ := bnd2_some h
    refine h_callIT (As := [.ref (A 0), .int (14 : Int32), .int a2, .int r_2, .int (0 : Int32)]) (Wf := lWf cy A aK B X8) (ws9 := (lW cy A aK B X8 σ_6 ρ_3)) X (ZL_ok _ _ _ _ _ _ _ _) (m_L_done hl hf_4) (vx_cwSW 5 X.1.2.2.2.2 gZL_comes_L_done rfl rfl rfl (by decide +kernel) ⟨Nat.le_of_ble_eq_true rfl, Nat.le_of_ble_eq_true rfl⟩) rfl rfl (Nat.le_of_ble_eq_true rfl) ⟨by decide, by decide⟩ dL_comes_15 rfl rfl (k' := 1) (n' := 6) (by decide) (by decide) ?_
    refine g_istore X dL_comes_18 (by decide) (lv' := [(4, .int r_5), (3, .int r_2), (0, .ref (A 0)), (1, .ref (B 0)), (2, .int a2)]) rfl ?_
    refine g_aload_n X dL_comes_20 rfl 2 rfl ?_
    refine g_iload_n X dL_comes_21 rfl 4 rfl ?_
    obtain ⟨r_8, hf_7, h⟩ := bndQ_some h
    refine g_xVI_ret (AD := A) (As := [.int a2]) X (ZL_ok _ _ _ _ _ _ _ _) (xI_up (m_X10_isSorted hl hf_7)) (cwV 1 X.1.2.2.2.2 gZL_comes_X10_isSorted rfl rfl rfl (by decide +kernel) ⟨Nat.le_of_ble_eq_true rfl, Nat.le_of_ble_eq_true rfl⟩) rfl cm0 (cE_0 cy A aK σ_6) rfl rfl (Nat.le_of_ble_eq_true rfl) ⟨Nat.le_of_ble_eq_true rfl, Nat.le_of_ble_eq_true rfl⟩ dL_comes_22 (k' := 1) (n' := 6) (thrC_k _ _) (thrS_k _ _) ?_
    refine g_if_ne X (tgt := 50) dL_comes_25 (by decide) (fun hc_9 => ?_) (fun hc_9 => ?_)
    · have h := iff_ hc_9 h
      refine g_aload_n X dL_comes_50 rfl 2 rfl ?_
      refine g_iload_n X dL_comes_51 rfl 4 rfl ?_
      obtain ⟨r_11, hf_10, h⟩ := bndQ_some h
      refine g_xVI_ret (AD := A) (As := [.int a2]) X (ZL_ok _ _ _ _ _ _ _ _) (xI_up (m_X10_count hl hf_10)) (cwV 1 X.1.2.2.2.2 gZL_comes_X10_count rfl rfl rfl (by decide +kernel) ⟨Nat.le_of_ble_eq_true rfl, Nat.le_of_ble_eq_true rfl⟩) rfl cm0 (cE_0 cy A aK σ_6) rfl rfl (Nat.le_of_ble_eq_true rfl) ⟨Nat.le_of_ble_eq_true rfl, Nat.le_of_ble_eq_true rfl⟩ dL_comes_52 (k' := 1) (n' := 6) (thrC_k _ _) (thrS_k _ _) ?_
      refine g_istore X dL_comes_55 (by decide) (lv' := [(5, .int r_11), (4, .int r_5), (3, .int r_2), (0, .ref (A 0)), (1, .ref (B 0)), (2, .int a2)]) rfl ?_
      refine g_iload X dL_comes_57 1 rfl ?_
      obtain ⟨v_13, hj_67, h⟩ := bnd_some h
      have K_14 : gG p l e rmL_comes s m args below meth c D (cyT cy) B9 8 (lIe (lWf cy A aK B X8) D (cyT cy) B9 below args s r (σ', ρ') 3 18) (lW cy A aK B X8 σ_6 ρ_3) 1 6 112 [(0, .ref (A 0)), (2, .int a2), (3, .int r_2), (4, .int r_5), (5, .int r_11)] [.int v_13] := by
        refine g_istore X dL_comes_112 (by decide) (lv' := [(6, .int v_13), (0, .ref (A 0)), (2, .int a2), (3, .int r_2), (4, .int r_5), (5, .int r_11)]) rfl ?_
        refine g_aload_n X dL_comes_114 rfl 1 rfl ?_
        refine g_iload_n X dL_comes_115 rfl 2 rfl ?_
        refine g_iload X dL_comes_116 4 rfl ?_
        refine g_iload_n X dL_comes_118 rfl 3 rfl ?_
        refine g_bipush X dL_comes_119 (v := (77 : Int32)) (by decide) ?_
        obtain ⟨r_29, σ_30, hf_28, h⟩ := bnd2_some h
        refine h_callIT (As := [.ref (A 0), .int a2, .int r_5, .int r_2, .int (77 : Int32)]) (Wf := lWf cy A aK B X8) (ws9 := (lW cy A aK B X8 σ_30 ρ_3)) X (ZL_ok _ _ _ _ _ _ _ _) (m_L_put hl hf_28) (vx_cwSW 5 X.1.2.2.2.2 gZL_comes_L_put rfl rfl rfl (by decide +kernel) ⟨Nat.le_of_ble_eq_true rfl, Nat.le_of_ble_eq_true rfl⟩) rfl rfl (Nat.le_of_ble_eq_true rfl) ⟨by decide, by decide⟩ dL_comes_121 rfl rfl (k' := 2) (n' := 12) (by decide) (by decide) ?_
        refine g_istore X dL_comes_124 (by decide) (lv' := [(7, .int r_29), (6, .int v_13), (0, .ref (A 0)), (2, .int a2), (3, .int r_2), (4, .int r_5), (5, .int r_11)]) rfl ?_
        refine g_iload X dL_comes_126 1 rfl ?_
        refine g_if_eq X (tgt := 139) dL_comes_128 (by decide) (fun hc_31 => ?_) (fun hc_31 => ?_)
        · have h := ift hc_31 h
          refine g_iload X dL_comes_139 1 rfl ?_
          obtain ⟨v_33, hj_37, h⟩ := bnd_some h
          have K_34 : gG p l e rmL_comes s m args below meth c D (cyT cy) B9 8 (lIe (lWf cy A aK B X8) D (cyT cy) B9 below args s r (σ', ρ') 3 18) (lW cy A aK B X8 σ_30 ρ_3) 2 12 156 [] [.int v_33] := by
            obtain ⟨hg_36, h⟩ := grd_some h
            cases h
            refine g_wid (k' := 3) (n' := 18) (by decide) (by decide) ?_
            exact g_zret (Wf := (lWf cy A aK B X8)) (u := (_, _)) X (nar01 hg_36) ⟨rfl, rfl⟩ dL_comes_156
          have h := hj_37
          clear hj_37
          refine g_if_eq X (tgt := 155) dL_comes_141 (by decide) (fun hc_32 => ?_) (fun hc_32 => ?_)
          · have h := ift hc_32 h
            refine g_iconst X dL_comes_155 (v := (0 : Int32)) (by decide) ?_
            cases h
            exact g_sub [] rfl K_34
          · have h := iff_ hc_32 h
            refine g_iload X dL_comes_144 0 rfl ?_
            refine g_bipush X dL_comes_146 (v := (-3 : Int32)) (by decide) ?_
            refine g_icmp_ne X (tgt := 155) dL_comes_148 (by decide) (fun hc_35 => ?_) (fun hc_35 => ?_)
            · have h := iff_ hc_35 h
              refine g_iconst X dL_comes_155 (v := (0 : Int32)) (by decide) ?_
              cases h
              exact g_sub [] rfl K_34
            · have h := ift hc_35 h
              refine g_iconst X dL_comes_151 (v := (1 : Int32)) (by decide) ?_
              refine g_goto X (tgt := 156) dL_comes_152 (by decide) ?_
              cases h
              exact g_sub [] rfl K_34
        · have h := iff_ hc_31 h
          refine g_iload X dL_comes_131 6 rfl ?_
          refine g_sipush X dL_comes_133 (v := (800 : Int32)) (by decide) ?_
          refine g_icmp_ne X (tgt := 157) dL_comes_136 (by decide) (fun hc_38 => ?_) (fun hc_38 => ?_)
          · have h := iff_ hc_38 h
            refine g_iload X dL_comes_157 0 rfl ?_
            obtain ⟨v_40, σ_41, hj_60, h⟩ := bnd2_some h
            have K_42 : gG p l e rmL_comes s m args below meth c D (cyT cy) B9 8 (lIe (lWf cy A aK B X8) D (cyT cy) B9 below args s r (σ', ρ') 3 18) (lW cy A aK B X8 σ_41 ρ_3) 3 18 223 [] [.int v_40] := by
              obtain ⟨hg_59, h⟩ := grd_some h
              cases h
              exact g_zret (Wf := (lWf cy A aK B X8)) (u := (_, _)) X (nar01 hg_59) ⟨rfl, rfl⟩ dL_comes_223
            have h := hj_60
            clear hj_60
            refine g_if_lt X (tgt := 222) dL_comes_159 (by decide) (fun hc_39 => ?_) (fun hc_39 => ?_)
            · have h := ift hc_39 h
              refine g_iconst X dL_comes_222 (v := (0 : Int32)) (by decide) ?_
              cases h
              refine g_wid (k' := 3) (n' := 18) (by decide) (by decide) ?_
              exact g_sub [] rfl K_42
            · have h := iff_ hc_39 h
              refine g_aload_n X dL_comes_162 rfl 2 rfl ?_
              refine g_iload_n X dL_comes_163 rfl 3 rfl ?_
              obtain ⟨r_44, hf_43, h⟩ := bndQ_some h
              refine g_xVI_ret (AD := A) (As := [.int a2]) X (ZL_ok _ _ _ _ _ _ _ _) (xI_up (m_X10_isSorted hl hf_43)) (cwV 1 X.1.2.2.2.2 gZL_comes_X10_isSorted rfl rfl rfl (by decide +kernel) ⟨Nat.le_of_ble_eq_true rfl, Nat.le_of_ble_eq_true rfl⟩) rfl cm0 (cE_0 cy A aK σ_30) rfl rfl (Nat.le_of_ble_eq_true rfl) ⟨Nat.le_of_ble_eq_true rfl, Nat.le_of_ble_eq_true rfl⟩ dL_comes_164 (k' := 2) (n' := 12) (thrC_k _ _) (thrS_k _ _) ?_
              refine g_if_eq X (tgt := 222) dL_comes_167 (by decide) (fun hc_45 => ?_) (fun hc_45 => ?_)
              · have h := ift hc_45 h
                refine g_iconst X dL_comes_222 (v := (0 : Int32)) (by decide) ?_
                cases h
                refine g_wid (k' := 3) (n' := 18) (by decide) (by decide) ?_
                exact g_sub [] rfl K_42
              · have h := iff_ hc_45 h
                refine g_aload_n X dL_comes_170 rfl 2 rfl ?_
                refine g_iload_n X dL_comes_171 rfl 3 rfl ?_
                refine g_iload X dL_comes_172 0 rfl ?_
                obtain ⟨r_47, hf_46, h⟩ := bndQ_some h
                refine g_xVI_ret (AD := A) (As := [.int a2, .int r_29]) X (ZL_ok _ _ _ _ _ _ _ _) (xI_up (m_X10_placeOf hl hf_46)) (cwV 2 X.1.2.2.2.2 gZL_comes_X10_placeOf rfl rfl rfl (by decide +kernel) ⟨Nat.le_of_ble_eq_true rfl, Nat.le_of_ble_eq_true rfl⟩) rfl cm0 (cE_0 cy A aK σ_30) rfl rfl (Nat.le_of_ble_eq_true rfl) ⟨Nat.le_of_ble_eq_true rfl, Nat.le_of_ble_eq_true rfl⟩ dL_comes_174 (k' := 2) (n' := 12) (thrC_k _ _) (thrS_k _ _) ?_
                refine g_iload X dL_comes_177 5 rfl ?_
                refine g_icmp_ne X (tgt := 222) dL_comes_179 (by decide) (fun hc_48 => ?_) (fun hc_48 => ?_)
                · have h := iff_ hc_48 h
                  refine g_iconst X dL_comes_222 (v := (0 : Int32)) (by decide) ?_
                  cases h
                  refine g_wid (k' := 3) (n' := 18) (by decide) (by decide) ?_
                  exact g_sub [] rfl K_42
                · have h := ift hc_48 h
                  refine g_aload_n X dL_comes_182 rfl 2 rfl ?_
                  refine g_iload_n X dL_comes_183 rfl 3 rfl ?_
                  refine g_iload X dL_comes_184 5 rfl ?_
                  refine g_iconst X dL_comes_186 (v := (1 : Int32)) (by decide) ?_
                  obtain ⟨r_50, hf_49, h⟩ := bndQ_some h
                  refine g_xVI_ret (AD := A) (As := [.int a2, .int r_5, .int (1 : Int32)]) X (ZL_ok _ _ _ _ _ _ _ _) (xI_up (m_X10_cardAt hl hf_49)) (cwV 3 X.1.2.2.2.2 gZL_comes_X10_cardAt rfl rfl rfl (by decide +kernel) ⟨Nat.le_of_ble_eq_true rfl, Nat.le_of_ble_eq_true rfl⟩) rfl cm0 (cE_0 cy A aK σ_30) rfl rfl (Nat.le_of_ble_eq_true rfl) ⟨Nat.le_of_ble_eq_true rfl, Nat.le_of_ble_eq_true rfl⟩ dL_comes_187 (k' := 2) (n' := 12) (thrC_k _ _) (thrS_k _ _) ?_
                  refine g_bipush X dL_comes_190 (v := (77 : Int32)) (by decide) ?_
                  refine g_icmp_ne X (tgt := 222) dL_comes_192 (by decide) (fun hc_51 => ?_) (fun hc_51 => ?_)
                  · have h := iff_ hc_51 h
                    refine g_iconst X dL_comes_222 (v := (0 : Int32)) (by decide) ?_
                    cases h
                    refine g_wid (k' := 3) (n' := 18) (by decide) (by decide) ?_
                    exact g_sub [] rfl K_42
                  · have h := ift hc_51 h
                    refine g_aload_n X dL_comes_195 rfl 2 rfl ?_
                    refine g_iload_n X dL_comes_196 rfl 3 rfl ?_
                    obtain ⟨r_53, hf_52, h⟩ := bndQ_some h
                    refine g_xVI_ret (AD := A) (As := [.int a2]) X (ZL_ok _ _ _ _ _ _ _ _) (xI_up (m_X10_count hl hf_52)) (cwV 1 X.1.2.2.2.2 gZL_comes_X10_count rfl rfl rfl (by decide +kernel) ⟨Nat.le_of_ble_eq_true rfl, Nat.le_of_ble_eq_true rfl⟩) rfl cm0 (cE_0 cy A aK σ_30) rfl rfl (Nat.le_of_ble_eq_true rfl) ⟨Nat.le_of_ble_eq_true rfl, Nat.le_of_ble_eq_true rfl⟩ dL_comes_197 (k' := 2) (n' := 12) (thrC_k _ _) (thrS_k _ _) ?_
                    refine g_iload X dL_comes_200 6 rfl ?_
                    refine g_iconst X dL_comes_202 (v := (1 : Int32)) (by decide) ?_
                    refine g_iadd X dL_comes_203 ?_
                    refine g_icmp_ne X (tgt := 222) dL_comes_204 (by decide) (fun hc_54 => ?_) (fun hc_54 => ?_)
                    · have h := iff_ hc_54 h
                      refine g_iconst X dL_comes_222 (v := (0 : Int32)) (by decide) ?_
                      cases h
                      refine g_wid (k' := 3) (n' := 18) (by decide) (by decide) ?_
                      exact g_sub [] rfl K_42
                    · have h := ift hc_54 h
                      refine g_aload_n X dL_comes_207 rfl 2 rfl ?_
                      refine g_iconst X dL_comes_208 (v := (1 : Int32)) (by decide) ?_
                      refine g_iload_n X dL_comes_209 rfl 3 rfl ?_
                      refine g_iconst X dL_comes_210 (v := (0 : Int32)) (by decide) ?_
                      refine g_iconst X dL_comes_211 (v := (0 : Int32)) (by decide) ?_
                      obtain ⟨r_56, σ_57, hf_55, h⟩ := bnd2_some h
                      refine h_callIT (As := [.ref (A 0), .int (1 : Int32), .int a2, .int (0 : Int32), .int (0 : Int32)]) (Wf := lWf cy A aK B X8) (ws9 := (lW cy A aK B X8 σ_57 ρ_3)) X (ZL_ok _ _ _ _ _ _ _ _) (m_L_done hl hf_55) (vx_cwSW 5 X.1.2.2.2.2 gZL_comes_L_done rfl rfl rfl (by decide +kernel) ⟨Nat.le_of_ble_eq_true rfl, Nat.le_of_ble_eq_true rfl⟩) rfl rfl (Nat.le_of_ble_eq_true rfl) ⟨by decide, by decide⟩ dL_comes_212 rfl rfl (k' := 3) (n' := 18) (by decide) (by decide) ?_
                      refine g_if_ne X (tgt := 222) dL_comes_215 (by decide) (fun hc_58 => ?_) (fun hc_58 => ?_)
                      · have h := iff_ hc_58 h
                        refine g_iconst X dL_comes_222 (v := (0 : Int32)) (by decide) ?_
                        cases h
                        exact g_sub [] rfl K_42
                      · have h := ift hc_58 h
                        refine g_iconst X dL_comes_218 (v := (1 : Int32)) (by decide) ?_
                        refine g_goto X (tgt := 223) dL_comes_219 (by decide) ?_
                        cases h
                        exact g_sub [] rfl K_42
          · have h := ift hc_38 h
            refine g_iload X dL_comes_139 1 rfl ?_
            obtain ⟨v_62, hj_66, h⟩ := bnd_some h
            have K_63 : gG p l e rmL_comes s m args below meth c D (cyT cy) B9 8 (lIe (lWf cy A aK B X8) D (cyT cy) B9 below args s r (σ', ρ') 3 18) (lW cy A aK B X8 σ_30 ρ_3) 2 12 156 [] [.int v_62] := by
              obtain ⟨hg_65, h⟩ := grd_some h
              cases h
              refine g_wid (k' := 3) (n' := 18) (by decide) (by decide) ?_
              exact g_zret (Wf := (lWf cy A aK B X8)) (u := (_, _)) X (nar01 hg_65) ⟨rfl, rfl⟩ dL_comes_156
            have h := hj_66
            clear hj_66
            refine g_if_eq X (tgt := 155) dL_comes_141 (by decide) (fun hc_61 => ?_) (fun hc_61 => ?_)
            · have h := ift hc_61 h
              refine g_iconst X dL_comes_155 (v := (0 : Int32)) (by decide) ?_
              cases h
              exact g_sub [] rfl K_63
            · have h := iff_ hc_61 h
              refine g_iload X dL_comes_144 0 rfl ?_
              refine g_bipush X dL_comes_146 (v := (-3 : Int32)) (by decide) ?_
              refine g_icmp_ne X (tgt := 155) dL_comes_148 (by decide) (fun hc_64 => ?_) (fun hc_64 => ?_)
              · have h := iff_ hc_64 h
                refine g_iconst X dL_comes_155 (v := (0 : Int32)) (by decide) ?_
                cases h
                exact g_sub [] rfl K_63
              · have h := ift hc_64 h
                refine g_iconst X dL_comes_151 (v := (1 : Int32)) (by decide) ?_
                refine g_goto X (tgt := 156) dL_comes_152 (by decide) ?_
                cases h
                exact g_sub [] rfl K_63
      have h := hj_67
      clear hj_67
      refine g_if_lt X (tgt := 111) dL_comes_59 (by decide) (fun hc_12 => ?_) (fun hc_12 => ?_)
      · have h := ift hc_12 h
        refine g_iconst X dL_comes_111 (v := (0 : Int32)) (by decide) ?_
        cases h
        exact g_sub [3, 5, 2, 1, 0] rfl K_14
      · have h := iff_ hc_12 h
        refine g_iload X dL_comes_62 1 rfl ?_
        refine g_iload X dL_comes_64 0 rfl ?_
        refine g_icmp_gt X (tgt := 111) dL_comes_66 (by decide) (fun hc_15 => ?_) (fun hc_15 => ?_)
        · have h := ift hc_15 h
          refine g_iconst X dL_comes_111 (v := (0 : Int32)) (by decide) ?_
          cases h
          exact g_sub [3, 5, 2, 1, 0] rfl K_14
        · have h := iff_ hc_15 h
          refine g_iload X dL_comes_69 1 rfl ?_
          refine g_if_eq X (tgt := 88) dL_comes_71 (by decide) (fun hc_16 => ?_) (fun hc_16 => ?_)
          · have h := ift hc_16 h
            refine g_iload X dL_comes_88 1 rfl ?_
            refine g_iload X dL_comes_90 0 rfl ?_
            refine g_icmp_eq X (tgt := 107) dL_comes_92 (by decide) (fun hc_17 => ?_) (fun hc_17 => ?_)
            · have h := ift hc_17 h
              refine g_iconst X dL_comes_107 (v := (1 : Int32)) (by decide) ?_
              refine g_goto X (tgt := 112) dL_comes_108 (by decide) ?_
              cases h
              exact g_sub [3, 5, 2, 1, 0] rfl K_14
            · have h := iff_ hc_17 h
              refine g_aload_n X dL_comes_95 rfl 3 rfl ?_
              refine g_iload_n X dL_comes_96 rfl 5 rfl ?_
              refine g_iload X dL_comes_97 1 rfl ?_
              refine g_iconst X dL_comes_99 (v := (0 : Int32)) (by decide) ?_
              obtain ⟨r_19, hf_18, h⟩ := bndQ_some h
              refine g_xVI_ret (AD := A) (As := [.int a2, .int r_5, .int (0 : Int32)]) X (ZL_ok _ _ _ _ _ _ _ _) (xI_up (m_X10_cardAt hl hf_18)) (cwV 3 X.1.2.2.2.2 gZL_comes_X10_cardAt rfl rfl rfl (by decide +kernel) ⟨Nat.le_of_ble_eq_true rfl, Nat.le_of_ble_eq_true rfl⟩) rfl cm0 (cE_0 cy A aK σ_6) rfl rfl (Nat.le_of_ble_eq_true rfl) ⟨Nat.le_of_ble_eq_true rfl, Nat.le_of_ble_eq_true rfl⟩ dL_comes_100 (k' := 1) (n' := 6) (thrC_k _ _) (thrS_k _ _) ?_
              refine g_iload_n X dL_comes_103 rfl 2 rfl ?_
              refine g_icmp_le X (tgt := 111) dL_comes_104 (by decide) (fun hc_20 => ?_) (fun hc_20 => ?_)
              · have h := ift hc_20 h
                refine g_iconst X dL_comes_111 (v := (0 : Int32)) (by decide) ?_
                cases h
                exact g_sub [3, 5, 2, 1, 0] rfl K_14
              · have h := iff_ hc_20 h
                refine g_iconst X dL_comes_107 (v := (1 : Int32)) (by decide) ?_
                refine g_goto X (tgt := 112) dL_comes_108 (by decide) ?_
                cases h
                exact g_sub [3, 5, 2, 1, 0] rfl K_14
          · have h := iff_ hc_16 h
            refine g_aload_n X dL_comes_74 rfl 3 rfl ?_
            refine g_iload_n X dL_comes_75 rfl 5 rfl ?_
            refine g_iload X dL_comes_76 1 rfl ?_
            refine g_iconst X dL_comes_78 (v := (1 : Int32)) (by decide) ?_
            refine g_isub X dL_comes_79 ?_
            refine g_iconst X dL_comes_80 (v := (0 : Int32)) (by decide) ?_
            obtain ⟨r_22, hf_21, h⟩ := bndQ_some h
            refine g_xVI_ret (AD := A) (As := [.int a2, .int (r_5 - (1 : Int32)), .int (0 : Int32)]) X (ZL_ok _ _ _ _ _ _ _ _) (xI_up (m_X10_cardAt hl hf_21)) (cwV 3 X.1.2.2.2.2 gZL_comes_X10_cardAt rfl rfl rfl (by decide +kernel) ⟨Nat.le_of_ble_eq_true rfl, Nat.le_of_ble_eq_true rfl⟩) rfl cm0 (cE_0 cy A aK σ_6) rfl rfl (Nat.le_of_ble_eq_true rfl) ⟨Nat.le_of_ble_eq_true rfl, Nat.le_of_ble_eq_true rfl⟩ dL_comes_81 (k' := 1) (n' := 6) (thrC_k _ _) (thrS_k _ _) ?_
            refine g_iload_n X dL_comes_84 rfl 2 rfl ?_
            refine g_icmp_gt X (tgt := 111) dL_comes_85 (by decide) (fun hc_23 => ?_) (fun hc_23 => ?_)
            · have h := ift hc_23 h
              refine g_iconst X dL_comes_111 (v := (0 : Int32)) (by decide) ?_
              cases h
              exact g_sub [3, 5, 2, 1, 0] rfl K_14
            · have h := iff_ hc_23 h
              refine g_iload X dL_comes_88 1 rfl ?_
              refine g_iload X dL_comes_90 0 rfl ?_
              refine g_icmp_eq X (tgt := 107) dL_comes_92 (by decide) (fun hc_24 => ?_) (fun hc_24 => ?_)
              · have h := ift hc_24 h
                refine g_iconst X dL_comes_107 (v := (1 : Int32)) (by decide) ?_
                refine g_goto X (tgt := 112) dL_comes_108 (by decide) ?_
                cases h
                exact g_sub [3, 5, 2, 1, 0] rfl K_14
              · have h := iff_ hc_24 h
                refine g_aload_n X dL_comes_95 rfl 3 rfl ?_
                refine g_iload_n X dL_comes_96 rfl 5 rfl ?_
                refine g_iload X dL_comes_97 1 rfl ?_
                refine g_iconst X dL_comes_99 (v := (0 : Int32)) (by decide) ?_
                obtain ⟨r_26, hf_25, h⟩ := bndQ_some h
                refine g_xVI_ret (AD := A) (As := [.int a2, .int r_5, .int (0 : Int32)]) X (ZL_ok _ _ _ _ _ _ _ _) (xI_up (m_X10_cardAt hl hf_25)) (cwV 3 X.1.2.2.2.2 gZL_comes_X10_cardAt rfl rfl rfl (by decide +kernel) ⟨Nat.le_of_ble_eq_true rfl, Nat.le_of_ble_eq_true rfl⟩) rfl cm0 (cE_0 cy A aK σ_6) rfl rfl (Nat.le_of_ble_eq_true rfl) ⟨Nat.le_of_ble_eq_true rfl, Nat.le_of_ble_eq_true rfl⟩ dL_comes_100 (k' := 1) (n' := 6) (thrC_k _ _) (thrS_k _ _) ?_
                refine g_iload_n X dL_comes_103 rfl 2 rfl ?_
                refine g_icmp_le X (tgt := 111) dL_comes_104 (by decide) (fun hc_27 => ?_) (fun hc_27 => ?_)
                · have h := ift hc_27 h
                  refine g_iconst X dL_comes_111 (v := (0 : Int32)) (by decide) ?_
                  cases h
                  exact g_sub [3, 5, 2, 1, 0] rfl K_14
                · have h := iff_ hc_27 h
                  refine g_iconst X dL_comes_107 (v := (1 : Int32)) (by decide) ?_
                  refine g_goto X (tgt := 112) dL_comes_108 (by decide) ?_
                  cases h
                  exact g_sub [3, 5, 2, 1, 0] rfl K_14
    · have h := ift hc_9 h
      refine g_iload X dL_comes_28 0 rfl ?_
      refine g_bipush X dL_comes_30 (v := (-3 : Int32)) (by decide) ?_
      obtain ⟨v_69, hj_75, h⟩ := bnd_some h
      have K_70 : gG p l e rmL_comes s m args below meth c D (cyT cy) B9 8 (lIe (lWf cy A aK B X8) D (cyT cy) B9 below args s r (σ', ρ') 3 18) (lW cy A aK B X8 σ_6 ρ_3) 1 6 49 [] [.int v_69] := by
        obtain ⟨hg_74, h⟩ := grd_some h
        cases h
        refine g_wid (k' := 3) (n' := 18) (by decide) (by decide) ?_
        exact g_zret (Wf := (lWf cy A aK B X8)) (u := (_, _)) X (nar01 hg_74) ⟨rfl, rfl⟩ dL_comes_49
      have h := hj_75
      clear hj_75
      refine g_icmp_ne X (tgt := 48) dL_comes_32 (by decide) (fun hc_68 => ?_) (fun hc_68 => ?_)
      · have h := iff_ hc_68 h
        refine g_iconst X dL_comes_48 (v := (0 : Int32)) (by decide) ?_
        cases h
        exact g_sub [] rfl K_70
      · have h := ift hc_68 h
        refine g_aload_n X dL_comes_35 rfl 2 rfl ?_
        refine g_iload_n X dL_comes_36 rfl 4 rfl ?_
        obtain ⟨r_72, hf_71, h⟩ := bndQ_some h
        refine g_xVI_ret (AD := A) (As := [.int a2]) X (ZL_ok _ _ _ _ _ _ _ _) (xI_up (m_X10_runs hl hf_71)) (cwV 1 X.1.2.2.2.2 gZL_comes_X10_runs rfl rfl rfl (by decide +kernel) ⟨Nat.le_of_ble_eq_true rfl, Nat.le_of_ble_eq_true rfl⟩) rfl cm0 (cE_0 cy A aK σ_6) rfl rfl (Nat.le_of_ble_eq_true rfl) ⟨Nat.le_of_ble_eq_true rfl, Nat.le_of_ble_eq_true rfl⟩ dL_comes_37 (k' := 1) (n' := 6) (thrC_k _ _) (thrS_k _ _) ?_
        refine g_iconst X dL_comes_40 (v := (1 : Int32)) (by decide) ?_
        refine g_icmp_le X (tgt := 48) dL_comes_41 (by decide) (fun hc_73 => ?_) (fun hc_73 => ?_)
        · have h := ift hc_73 h
          refine g_iconst X dL_comes_48 (v := (0 : Int32)) (by decide) ?_
          cases h
          exact g_sub [] rfl K_70
        · have h := iff_ hc_73 h
          refine g_iconst X dL_comes_44 (v := (1 : Int32)) (by decide) ?_
          refine g_goto X (tgt := 49) dL_comes_45 (by decide) ?_
          cases h
          exact g_sub [] rfl K_70
  exact K0
end LV
