section MV
variable {D : va_G} {cy : Nat → ClassId} {A aK aO aS aV aT : Nat → Nat} {l : Launch} {X9 : va_W}
set_option maxHeartbeats 8000000 in
set_option maxRecDepth 100000 in
theorem m_X11_next {σ : St} {σ' : St} (h : f_X11_next σ = some σ') : mV (ZC aK aO aS aV aT) D (cyT cy) l yX11_next wsX11_next ({ frames := 2, cells := 0, slots := 0, locals := 42 } : Room) (mW cy A X9) [.ref (A 0)] σ σ' := by
  unfold f_X11_next at h
  refine mV_of (cc := cX11_next) (maxL := 3) (ret := none) (by decide) rfl (Nat.le_of_ble_eq_true rfl) (fun p e s m args below meth c B X => ?_)
  have hin11 : ∀ w ∈ wsX110, w ∈ wsX11_next := by decide +kernel
  have lk0 : Cond.fieldLink RX11 85 "CardcabinetModel" "at" "I" ∈ wsX11_next := by decide +kernel
  have lk1 : Cond.fieldLink RX11 75 "CardcabinetModel" "length" "I" ∈ wsX11_next := by decide +kernel
  have lk2 : Cond.fieldLink RX11 28 "CardcabinetModel" "text" "[I" ∈ wsX11_next := by decide +kernel
  have lk3 : Cond.fieldLink RX11 88 "CardcabinetModel" "tokenFrom" "I" ∈ wsX11_next := by decide +kernel
  have lk4 : Cond.fieldLink RX11 91 "CardcabinetModel" "token" "I" ∈ wsX11_next := by decide +kernel
  have lk5 : Cond.fieldLink RX11 101 "CardcabinetModel" "number" "I" ∈ wsX11_next := by decide +kernel
  have K0 : gG p l e ({ frames := 2, cells := 0, slots := 0, locals := 42 } : Room) s m args below meth c D (cyT cy) B 3 (eV D (cyT cy) (mW cy A X9) B below args s σ') (mW cy A X9 σ) 0 0 0 [(0, .ref (A 0))] [] := by
    have L_6 : ∀ (n_2 : Nat) (σ_1 : St) (σ_7 : St), f_X11_next_L0 n_2 σ_1 = some (σ_7) → gG p l e ({ frames := 2, cells := 0, slots := 0, locals := 42 } : Room) s m args below meth c D (cyT cy) B 3 (eV D (cyT cy) (mW cy A X9) B below args s σ') (mW cy A X9 σ_7) 0 0 38 [(0, .ref (A 0))] [] → gG p l e ({ frames := 2, cells := 0, slots := 0, locals := 42 } : Room) s m args below meth c D (cyT cy) B 3 (eV D (cyT cy) (mW cy A X9) B below args s σ') (mW cy A X9 σ_1) 0 0 0 [(0, .ref (A 0))] [] := by
      intro n_2
      induction n_2 with
      | zero =>
        intro σ_1 σ_7 h K_4
        rw [f_X11_next_L0] at h
        cases h
      | succ n_2 ih_3 =>
        intro σ_1 σ_7 h K_4
        rw [f_X11_next_L0] at h
        refine g_aload_n X dX11_next_0 rfl 0 rfl ?_
        refine g_get X (AD := A) mm0 (mE_0 cy A σ_1) hin11 rfl 13 (by decide) lk0 (fun _ h9 => h9) rfl dX11_next_1 ?_
        refine g_aload_n X dX11_next_4 rfl 0 rfl ?_
        refine g_get X (AD := A) mm0 (mE_0 cy A σ_1) hin11 rfl 8 (by decide) lk1 (fun _ h9 => h9) rfl dX11_next_5 ?_
        refine g_icmp_ge X (tgt := 38) dX11_next_8 (by decide) (fun hc_8 => ?_) (fun hc_8 => ?_)
        · have h := ift hc_8 h
          cases h
          exact g_sub [0] rfl K_4
        · have h := iff_ hc_8 h
          refine g_aload_n X dX11_next_11 rfl 0 rfl ?_
          refine g_get X (AD := A) mm0 (mE_0 cy A σ_1) hin11 rfl 7 (by decide) lk2 (fun _ h9 => h9) rfl dX11_next_12 ?_
          refine g_aload_n X dX11_next_15 rfl 0 rfl ?_
          refine g_get X (AD := A) mm0 (mE_0 cy A σ_1) hin11 rfl 13 (by decide) lk0 (fun _ h9 => h9) rfl dX11_next_16 ?_
          obtain ⟨hg_9, h⟩ := grd_some h
          refine g_iald X (AD := A) mm8 (mE_8 cy A σ_1) 0 rfl hg_9 dX11_next_19 ?_
          refine g_bipush X dX11_next_20 (v := (32 : Int32)) (by decide) ?_
          refine g_icmp_ne X (tgt := 38) dX11_next_22 (by decide) (fun hc_10 => ?_) (fun hc_10 => ?_)
          · have h := iff_ hc_10 h
            cases h
            exact g_sub [0] rfl K_4
          · have h := ift hc_10 h
            refine g_aload_n X dX11_next_25 rfl 0 rfl ?_
            refine g_dup X dX11_next_26 rfl ?_
            refine g_get X (AD := A) mm0 (mE_0 cy A σ_1) hin11 rfl 13 (by decide) lk0 (fun _ h9 => h9) rfl dX11_next_27 ?_
            refine g_iconst X dX11_next_30 (v := (1 : Int32)) (by decide) ?_
            refine g_iadd X dX11_next_31 ?_
            refine g_put X (AD := A) (ty := .int) (v := .int ((gi σ_1 13) + (1 : Int32))) (σ' := si σ_1 13 ((gi σ_1 13) + (1 : Int32))) mm0 (mE_0 cy A σ_1) hin11 rfl tyX11 tyX11_ok nmX11 13 (by decide) lk0 (fun _ h9 => h9) rfl (by decide +kernel) rfl rfl (Nat.le_of_ble_eq_true rfl) (sm_13 cy A σ_1 ((gi σ_1 13) + (1 : Int32))) dX11_next_32 ?_
            refine g_goto X (tgt := 0) dX11_next_35 (by decide) ?_
            exact g_sub [0] rfl (ih_3 _ _ h K_4)
    obtain ⟨σ_7, hl_11, h⟩ := bnd_some h
    refine g_sub [0] rfl (L_6 FU σ σ_7 hl_11 ?_)
    refine g_aload_n X dX11_next_38 rfl 0 rfl ?_
    refine g_aload_n X dX11_next_39 rfl 0 rfl ?_
    refine g_get X (AD := A) mm0 (mE_0 cy A σ_7) hin11 rfl 13 (by decide) lk0 (fun _ h9 => h9) rfl dX11_next_40 ?_
    refine g_put X (AD := A) (ty := .int) (v := .int (gi σ_7 13)) (σ' := si σ_7 15 (gi σ_7 13)) mm0 (mE_0 cy A σ_7) hin11 rfl tyX11 tyX11_ok nmX11 15 (by decide) lk3 (fun _ h9 => h9) rfl (by decide +kernel) rfl rfl (Nat.le_of_ble_eq_true rfl) (sm_15 cy A σ_7 (gi σ_7 13)) dX11_next_43 ?_
    refine g_aload_n X dX11_next_46 rfl 0 rfl ?_
    refine g_get X (AD := A) mm0 (mE_0 cy A (si σ_7 15 (gi σ_7 13))) hin11 rfl 13 (by decide) lk0 (fun _ h9 => h9) rfl dX11_next_47 ?_
    refine g_aload_n X dX11_next_50 rfl 0 rfl ?_
    refine g_get X (AD := A) mm0 (mE_0 cy A (si σ_7 15 (gi σ_7 13))) hin11 rfl 8 (by decide) lk1 (fun _ h9 => h9) rfl dX11_next_51 ?_
    refine g_icmp_ne X (tgt := 64) dX11_next_54 (by decide) (fun hc_12 => ?_) (fun hc_12 => ?_)
    · have h := iff_ hc_12 h
      refine g_aload_n X dX11_next_64 rfl 0 rfl ?_
      refine g_get X (AD := A) mm0 (mE_0 cy A (si σ_7 15 (gi σ_7 13))) hin11 rfl 7 (by decide) lk2 (fun _ h9 => h9) rfl dX11_next_65 ?_
      refine g_aload_n X dX11_next_68 rfl 0 rfl ?_
      refine g_get X (AD := A) mm0 (mE_0 cy A (si σ_7 15 (gi σ_7 13))) hin11 rfl 13 (by decide) lk0 (fun _ h9 => h9) rfl dX11_next_69 ?_
      obtain ⟨hg_13, h⟩ := grd_some h
      refine g_iald X (AD := A) mm8 (mE_8 cy A (si σ_7 15 (gi σ_7 13))) 0 rfl hg_13 dX11_next_72 ?_
      refine g_istore_n X dX11_next_73 rfl (by decide) (lv' := [(1, .int (gr (si σ_7 15 (gi σ_7 13)) 8 (gi (si σ_7 15 (gi σ_7 13)) 13).toNatClampNeg)), (0, .ref (A 0))]) rfl ?_
      refine g_aload_n X dX11_next_74 rfl 1 rfl ?_
      refine g_iload_n X dX11_next_75 rfl 0 rfl ?_
      obtain ⟨r_15, hf_14, h⟩ := bnd_some h
      refine g_callSI (AD := A) (As := [.int (gr (si σ_7 15 (gi σ_7 13)) 8 (gi (si σ_7 15 (gi σ_7 13)) 13).toNatClampNeg)]) X (ZC_ok _ _ _ _ _) (m_X11_isLetter hf_14) (va_cwS 1 X.1.2.2.2.2 gX11_next_X11_isLetter rfl rfl rfl (by decide +kernel) ⟨Nat.le_of_ble_eq_true rfl, Nat.le_of_ble_eq_true rfl⟩) rfl rfl (Nat.le_of_ble_eq_true rfl) ⟨by decide, by decide⟩ dX11_next_76 ?_
      obtain ⟨v_17, hj_71, h⟩ := bnd_some h
      have K_18 : gG p l e ({ frames := 2, cells := 0, slots := 0, locals := 42 } : Room) s m args below meth c D (cyT cy) B 3 (eV D (cyT cy) (mW cy A X9) B below args s σ') (mW cy A X9 (si σ_7 15 (gi σ_7 13))) 0 0 118 [(0, .ref (A 0))] [.int v_17, .ref (A 0)] := by
        refine g_put X (AD := A) (ty := .int) (v := .int v_17) (σ' := si (si σ_7 15 (gi σ_7 13)) 14 v_17) mm0 (mE_0 cy A (si σ_7 15 (gi σ_7 13))) hin11 rfl tyX11 tyX11_ok nmX11 14 (by decide) lk4 (fun _ h9 => h9) rfl (by decide +kernel) rfl rfl (Nat.le_of_ble_eq_true rfl) (sm_14 cy A (si σ_7 15 (gi σ_7 13)) v_17) dX11_next_118 ?_
        refine g_aload_n X dX11_next_121 rfl 0 rfl ?_
        refine g_iconst X dX11_next_122 (v := (0 : Int32)) (by decide) ?_
        refine g_put X (AD := A) (ty := .int) (v := .int (0 : Int32)) (σ' := si (si (si σ_7 15 (gi σ_7 13)) 14 v_17) 16 (0 : Int32)) mm0 (mE_0 cy A (si (si σ_7 15 (gi σ_7 13)) 14 v_17)) hin11 rfl tyX11 tyX11_ok nmX11 16 (by decide) lk5 (fun _ h9 => h9) rfl (by decide +kernel) rfl rfl (Nat.le_of_ble_eq_true rfl) (sm_16 cy A (si (si σ_7 15 (gi σ_7 13)) 14 v_17) (0 : Int32)) dX11_next_123 ?_
        obtain ⟨σ_24, e_25, h⟩ := bnd_some h
        have e_25 := Option.some.inj e_25
        rw [e_25]
        refine g_iconst X dX11_next_126 (v := (0 : Int32)) (by decide) ?_
        refine g_istore_n X dX11_next_127 rfl (by decide) (lv' := [(2, .int (0 : Int32)), (0, .ref (A 0))]) rfl ?_
        have L_32 : ∀ (n_28 : Nat) (v_26 : Int32) (σ_27 : St) (σ_33 : St), f_X11_next_L128 n_28 v_26 σ_27 = some (σ_33) → gG p l e ({ frames := 2, cells := 0, slots := 0, locals := 42 } : Room) s m args below meth c D (cyT cy) B 3 (eV D (cyT cy) (mW cy A X9) B below args s σ') (mW cy A X9 σ_33) 0 0 265 [] [] → gG p l e ({ frames := 2, cells := 0, slots := 0, locals := 42 } : Room) s m args below meth c D (cyT cy) B 3 (eV D (cyT cy) (mW cy A X9) B below args s σ') (mW cy A X9 σ_27) 0 0 128 [(0, .ref (A 0)), (2, .int v_26)] [] := by
          intro n_28
          induction n_28 with
          | zero =>
            intro v_26 σ_27 σ_33 h K_30
            rw [f_X11_next_L128] at h
            cases h
          | succ n_28 ih_29 =>
            intro v_26 σ_27 σ_33 h K_30
            rw [f_X11_next_L128] at h
            refine g_aload_n X dX11_next_128 rfl 0 rfl ?_
            refine g_get X (AD := A) mm0 (mE_0 cy A σ_27) hin11 rfl 13 (by decide) lk0 (fun _ h9 => h9) rfl dX11_next_129 ?_
            refine g_aload_n X dX11_next_132 rfl 0 rfl ?_
            refine g_get X (AD := A) mm0 (mE_0 cy A σ_27) hin11 rfl 8 (by decide) lk1 (fun _ h9 => h9) rfl dX11_next_133 ?_
            refine g_icmp_ge X (tgt := 265) dX11_next_136 (by decide) (fun hc_34 => ?_) (fun hc_34 => ?_)
            · have h := ift hc_34 h
              cases h
              exact g_sub [] rfl K_30
            · have h := iff_ hc_34 h
              refine g_aload_n X dX11_next_139 rfl 0 rfl ?_
              refine g_get X (AD := A) mm0 (mE_0 cy A σ_27) hin11 rfl 14 (by decide) lk4 (fun _ h9 => h9) rfl dX11_next_140 ?_
              refine g_iconst X dX11_next_143 (v := (1 : Int32)) (by decide) ?_
              refine g_icmp_ne X (tgt := 165) dX11_next_144 (by decide) (fun hc_35 => ?_) (fun hc_35 => ?_)
              · have h := iff_ hc_35 h
                refine g_aload_n X dX11_next_165 rfl 0 rfl ?_
                refine g_get X (AD := A) mm0 (mE_0 cy A σ_27) hin11 rfl 14 (by decide) lk4 (fun _ h9 => h9) rfl dX11_next_166 ?_
                refine g_iconst X dX11_next_169 (v := (2 : Int32)) (by decide) ?_
                refine g_icmp_ne X (tgt := 191) dX11_next_170 (by decide) (fun hc_36 => ?_) (fun hc_36 => ?_)
                · have h := iff_ hc_36 h
                  refine g_aload_n X dX11_next_191 rfl 0 rfl ?_
                  refine g_get X (AD := A) mm0 (mE_0 cy A σ_27) hin11 rfl 13 (by decide) lk0 (fun _ h9 => h9) rfl dX11_next_192 ?_
                  refine g_aload_n X dX11_next_195 rfl 0 rfl ?_
                  refine g_get X (AD := A) mm0 (mE_0 cy A σ_27) hin11 rfl 15 (by decide) lk3 (fun _ h9 => h9) rfl dX11_next_196 ?_
                  refine g_icmp_ne X (tgt := 265) dX11_next_199 (by decide) (fun hc_37 => ?_) (fun hc_37 => ?_)
                  · have h := iff_ hc_37 h
                    cases h
                    exact g_sub [] rfl K_30
                  · have h := ift hc_37 h
                    refine g_iinc X dX11_next_202 1 rfl (v := v_26 + (1 : Int32)) rfl (by decide) (lv' := [(2, .int (v_26 + (1 : Int32))), (0, .ref (A 0))]) rfl ?_
                    refine g_aload_n X dX11_next_205 rfl 1 rfl ?_
                    refine g_iload_n X dX11_next_206 rfl 0 rfl ?_
                    refine g_iconst X dX11_next_207 (v := (4 : Int32)) (by decide) ?_
                    obtain ⟨v_39, hj_45, h⟩ := bnd_some h
                    have K_40 : gG p l e ({ frames := 2, cells := 0, slots := 0, locals := 42 } : Room) s m args below meth c D (cyT cy) B 3 (eV D (cyT cy) (mW cy A X9) B below args s σ') (mW cy A X9 σ_27) 0 0 249 [(0, .ref (A 0)), (2, .int (v_26 + (1 : Int32)))] [.int v_39, .ref (A 0)] := by
                      refine g_put X (AD := A) (ty := .int) (v := .int v_39) (σ' := si σ_27 16 v_39) mm0 (mE_0 cy A σ_27) hin11 rfl tyX11 tyX11_ok nmX11 16 (by decide) lk5 (fun _ h9 => h9) rfl (by decide +kernel) rfl rfl (Nat.le_of_ble_eq_true rfl) (sm_16 cy A σ_27 v_39) dX11_next_249 ?_
                      refine g_aload_n X dX11_next_252 rfl 0 rfl ?_
                      refine g_dup X dX11_next_253 rfl ?_
                      refine g_get X (AD := A) mm0 (mE_0 cy A (si σ_27 16 v_39)) hin11 rfl 13 (by decide) lk0 (fun _ h9 => h9) rfl dX11_next_254 ?_
                      refine g_iconst X dX11_next_257 (v := (1 : Int32)) (by decide) ?_
                      refine g_iadd X dX11_next_258 ?_
                      refine g_put X (AD := A) (ty := .int) (v := .int ((gi (si σ_27 16 v_39) 13) + (1 : Int32))) (σ' := si (si σ_27 16 v_39) 13 ((gi (si σ_27 16 v_39) 13) + (1 : Int32))) mm0 (mE_0 cy A (si σ_27 16 v_39)) hin11 rfl tyX11 tyX11_ok nmX11 13 (by decide) lk0 (fun _ h9 => h9) rfl (by decide +kernel) rfl rfl (Nat.le_of_ble_eq_true rfl) (sm_13 cy A (si σ_27 16 v_39) ((gi (si σ_27 16 v_39) 13) + (1 : Int32))) dX11_next_259 ?_
                      obtain ⟨σ_43, e_44, h⟩ := bnd_some h
                      have e_44 := Option.some.inj e_44
                      rw [e_44]
                      refine g_goto X (tgt := 128) dX11_next_262 (by decide) ?_
                      exact g_sub [0, 1] rfl (ih_29 _ _ _ h K_30)
                    have h := hj_45
                    clear hj_45
                    refine g_icmp_le X (tgt := 217) dX11_next_208 (by decide) (fun hc_38 => ?_) (fun hc_38 => ?_)
                    · have h := ift hc_38 h
                      refine g_aload_n X dX11_next_217 rfl 1 rfl ?_
                      refine g_get X (AD := A) mm0 (mE_0 cy A σ_27) hin11 rfl 14 (by decide) lk4 (fun _ h9 => h9) rfl dX11_next_218 ?_
                      refine g_iconst X dX11_next_221 (v := (2 : Int32)) (by decide) ?_
                      refine g_icmp_ne X (tgt := 248) dX11_next_222 (by decide) (fun hc_41 => ?_) (fun hc_41 => ?_)
                      · have h := iff_ hc_41 h
                        refine g_iconst X dX11_next_248 (v := (0 : Int32)) (by decide) ?_
                        cases h
                        exact g_sub [1, 0] rfl K_40
                      · have h := ift hc_41 h
                        refine g_bipush X dX11_next_225 (v := (10 : Int32)) (by decide) ?_
                        refine g_aload_n X dX11_next_227 rfl 1 rfl ?_
                        refine g_get X (AD := A) mm0 (mE_0 cy A σ_27) hin11 rfl 16 (by decide) lk5 (fun _ h9 => h9) rfl dX11_next_228 ?_
                        refine g_imul X dX11_next_231 ?_
                        refine g_aload_n X dX11_next_232 rfl 1 rfl ?_
                        refine g_get X (AD := A) mm0 (mE_0 cy A σ_27) hin11 rfl 7 (by decide) lk2 (fun _ h9 => h9) rfl dX11_next_233 ?_
                        refine g_aload_n X dX11_next_236 rfl 1 rfl ?_
                        refine g_get X (AD := A) mm0 (mE_0 cy A σ_27) hin11 rfl 13 (by decide) lk0 (fun _ h9 => h9) rfl dX11_next_237 ?_
                        obtain ⟨hg_42, h⟩ := grd_some h
                        refine g_iald X (AD := A) mm8 (mE_8 cy A σ_27) 0 rfl hg_42 dX11_next_240 ?_
                        refine g_iadd X dX11_next_241 ?_
                        refine g_bipush X dX11_next_242 (v := (48 : Int32)) (by decide) ?_
                        refine g_isub X dX11_next_244 ?_
                        refine g_goto X (tgt := 249) dX11_next_245 (by decide) ?_
                        cases h
                        exact g_sub [1, 0] rfl K_40
                    · have h := iff_ hc_38 h
                      refine g_sipush X dX11_next_211 (v := (10000 : Int32)) (by decide) ?_
                      refine g_goto X (tgt := 249) dX11_next_214 (by decide) ?_
                      cases h
                      exact g_sub [1, 0] rfl K_40
                · have h := ift hc_36 h
                  refine g_aload_n X dX11_next_173 rfl 0 rfl ?_
                  refine g_get X (AD := A) mm0 (mE_0 cy A σ_27) hin11 rfl 7 (by decide) lk2 (fun _ h9 => h9) rfl dX11_next_174 ?_
                  refine g_aload_n X dX11_next_177 rfl 0 rfl ?_
                  refine g_get X (AD := A) mm0 (mE_0 cy A σ_27) hin11 rfl 13 (by decide) lk0 (fun _ h9 => h9) rfl dX11_next_178 ?_
                  obtain ⟨hg_46, h⟩ := grd_some h
                  refine g_iald X (AD := A) mm8 (mE_8 cy A σ_27) 0 rfl hg_46 dX11_next_181 ?_
                  obtain ⟨r_48, hf_47, h⟩ := bnd_some h
                  refine g_callSI (AD := A) (As := [.int (gr σ_27 8 (gi σ_27 13).toNatClampNeg)]) X (ZC_ok _ _ _ _ _) (m_X11_isDigit hf_47) (va_cwS 1 X.1.2.2.2.2 gX11_next_X11_isDigit rfl rfl rfl (by decide +kernel) ⟨Nat.le_of_ble_eq_true rfl, Nat.le_of_ble_eq_true rfl⟩) rfl rfl (Nat.le_of_ble_eq_true rfl) ⟨by decide, by decide⟩ dX11_next_182 ?_
                  refine g_if_eq X (tgt := 265) dX11_next_185 (by decide) (fun hc_49 => ?_) (fun hc_49 => ?_)
                  · have h := ift hc_49 h
                    cases h
                    exact g_sub [] rfl K_30
                  · have h := iff_ hc_49 h
                    refine g_goto X (tgt := 202) dX11_next_188 (by decide) ?_
                    refine g_iinc X dX11_next_202 1 rfl (v := v_26 + (1 : Int32)) rfl (by decide) (lv' := [(2, .int (v_26 + (1 : Int32))), (0, .ref (A 0))]) rfl ?_
                    refine g_aload_n X dX11_next_205 rfl 1 rfl ?_
                    refine g_iload_n X dX11_next_206 rfl 0 rfl ?_
                    refine g_iconst X dX11_next_207 (v := (4 : Int32)) (by decide) ?_
                    obtain ⟨v_51, hj_57, h⟩ := bnd_some h
                    have K_52 : gG p l e ({ frames := 2, cells := 0, slots := 0, locals := 42 } : Room) s m args below meth c D (cyT cy) B 3 (eV D (cyT cy) (mW cy A X9) B below args s σ') (mW cy A X9 σ_27) 0 0 249 [(0, .ref (A 0)), (2, .int (v_26 + (1 : Int32)))] [.int v_51, .ref (A 0)] := by
                      refine g_put X (AD := A) (ty := .int) (v := .int v_51) (σ' := si σ_27 16 v_51) mm0 (mE_0 cy A σ_27) hin11 rfl tyX11 tyX11_ok nmX11 16 (by decide) lk5 (fun _ h9 => h9) rfl (by decide +kernel) rfl rfl (Nat.le_of_ble_eq_true rfl) (sm_16 cy A σ_27 v_51) dX11_next_249 ?_
                      refine g_aload_n X dX11_next_252 rfl 0 rfl ?_
                      refine g_dup X dX11_next_253 rfl ?_
                      refine g_get X (AD := A) mm0 (mE_0 cy A (si σ_27 16 v_51)) hin11 rfl 13 (by decide) lk0 (fun _ h9 => h9) rfl dX11_next_254 ?_
                      refine g_iconst X dX11_next_257 (v := (1 : Int32)) (by decide) ?_
                      refine g_iadd X dX11_next_258 ?_
                      refine g_put X (AD := A) (ty := .int) (v := .int ((gi (si σ_27 16 v_51) 13) + (1 : Int32))) (σ' := si (si σ_27 16 v_51) 13 ((gi (si σ_27 16 v_51) 13) + (1 : Int32))) mm0 (mE_0 cy A (si σ_27 16 v_51)) hin11 rfl tyX11 tyX11_ok nmX11 13 (by decide) lk0 (fun _ h9 => h9) rfl (by decide +kernel) rfl rfl (Nat.le_of_ble_eq_true rfl) (sm_13 cy A (si σ_27 16 v_51) ((gi (si σ_27 16 v_51) 13) + (1 : Int32))) dX11_next_259 ?_
                      obtain ⟨σ_55, e_56, h⟩ := bnd_some h
                      have e_56 := Option.some.inj e_56
                      rw [e_56]
                      refine g_goto X (tgt := 128) dX11_next_262 (by decide) ?_
                      exact g_sub [0, 1] rfl (ih_29 _ _ _ h K_30)
                    have h := hj_57
                    clear hj_57
                    refine g_icmp_le X (tgt := 217) dX11_next_208 (by decide) (fun hc_50 => ?_) (fun hc_50 => ?_)
                    · have h := ift hc_50 h
                      refine g_aload_n X dX11_next_217 rfl 1 rfl ?_
                      refine g_get X (AD := A) mm0 (mE_0 cy A σ_27) hin11 rfl 14 (by decide) lk4 (fun _ h9 => h9) rfl dX11_next_218 ?_
                      refine g_iconst X dX11_next_221 (v := (2 : Int32)) (by decide) ?_
                      refine g_icmp_ne X (tgt := 248) dX11_next_222 (by decide) (fun hc_53 => ?_) (fun hc_53 => ?_)
                      · have h := iff_ hc_53 h
                        refine g_iconst X dX11_next_248 (v := (0 : Int32)) (by decide) ?_
                        cases h
                        exact g_sub [1, 0] rfl K_52
                      · have h := ift hc_53 h
                        refine g_bipush X dX11_next_225 (v := (10 : Int32)) (by decide) ?_
                        refine g_aload_n X dX11_next_227 rfl 1 rfl ?_
                        refine g_get X (AD := A) mm0 (mE_0 cy A σ_27) hin11 rfl 16 (by decide) lk5 (fun _ h9 => h9) rfl dX11_next_228 ?_
                        refine g_imul X dX11_next_231 ?_
                        refine g_aload_n X dX11_next_232 rfl 1 rfl ?_
                        refine g_get X (AD := A) mm0 (mE_0 cy A σ_27) hin11 rfl 7 (by decide) lk2 (fun _ h9 => h9) rfl dX11_next_233 ?_
                        refine g_aload_n X dX11_next_236 rfl 1 rfl ?_
                        refine g_get X (AD := A) mm0 (mE_0 cy A σ_27) hin11 rfl 13 (by decide) lk0 (fun _ h9 => h9) rfl dX11_next_237 ?_
                        obtain ⟨hg_54, h⟩ := grd_some h
                        refine g_iald X (AD := A) mm8 (mE_8 cy A σ_27) 0 rfl hg_54 dX11_next_240 ?_
                        refine g_iadd X dX11_next_241 ?_
                        refine g_bipush X dX11_next_242 (v := (48 : Int32)) (by decide) ?_
                        refine g_isub X dX11_next_244 ?_
                        refine g_goto X (tgt := 249) dX11_next_245 (by decide) ?_
                        cases h
                        exact g_sub [1, 0] rfl K_52
                    · have h := iff_ hc_50 h
                      refine g_sipush X dX11_next_211 (v := (10000 : Int32)) (by decide) ?_
                      refine g_goto X (tgt := 249) dX11_next_214 (by decide) ?_
                      cases h
                      exact g_sub [1, 0] rfl K_52
              · have h := ift hc_35 h
                refine g_aload_n X dX11_next_147 rfl 0 rfl ?_
                refine g_get X (AD := A) mm0 (mE_0 cy A σ_27) hin11 rfl 7 (by decide) lk2 (fun _ h9 => h9) rfl dX11_next_148 ?_
                refine g_aload_n X dX11_next_151 rfl 0 rfl ?_
                refine g_get X (AD := A) mm0 (mE_0 cy A σ_27) hin11 rfl 13 (by decide) lk0 (fun _ h9 => h9) rfl dX11_next_152 ?_
                obtain ⟨hg_58, h⟩ := grd_some h
                refine g_iald X (AD := A) mm8 (mE_8 cy A σ_27) 0 rfl hg_58 dX11_next_155 ?_
                obtain ⟨r_60, hf_59, h⟩ := bnd_some h
                refine g_callSI (AD := A) (As := [.int (gr σ_27 8 (gi σ_27 13).toNatClampNeg)]) X (ZC_ok _ _ _ _ _) (m_X11_isLetter hf_59) (va_cwS 1 X.1.2.2.2.2 gX11_next_X11_isLetter rfl rfl rfl (by decide +kernel) ⟨Nat.le_of_ble_eq_true rfl, Nat.le_of_ble_eq_true rfl⟩) rfl rfl (Nat.le_of_ble_eq_true rfl) ⟨by decide, by decide⟩ dX11_next_156 ?_
                refine g_if_eq X (tgt := 265) dX11_next_159 (by decide) (fun hc_61 => ?_) (fun hc_61 => ?_)
                · have h := ift hc_61 h
                  cases h
                  exact g_sub [] rfl K_30
                · have h := iff_ hc_61 h
                  refine g_goto X (tgt := 202) dX11_next_162 (by decide) ?_
                  refine g_iinc X dX11_next_202 1 rfl (v := v_26 + (1 : Int32)) rfl (by decide) (lv' := [(2, .int (v_26 + (1 : Int32))), (0, .ref (A 0))]) rfl ?_
                  refine g_aload_n X dX11_next_205 rfl 1 rfl ?_
                  refine g_iload_n X dX11_next_206 rfl 0 rfl ?_
                  refine g_iconst X dX11_next_207 (v := (4 : Int32)) (by decide) ?_
                  obtain ⟨v_63, hj_69, h⟩ := bnd_some h
                  have K_64 : gG p l e ({ frames := 2, cells := 0, slots := 0, locals := 42 } : Room) s m args below meth c D (cyT cy) B 3 (eV D (cyT cy) (mW cy A X9) B below args s σ') (mW cy A X9 σ_27) 0 0 249 [(0, .ref (A 0)), (2, .int (v_26 + (1 : Int32)))] [.int v_63, .ref (A 0)] := by
                    refine g_put X (AD := A) (ty := .int) (v := .int v_63) (σ' := si σ_27 16 v_63) mm0 (mE_0 cy A σ_27) hin11 rfl tyX11 tyX11_ok nmX11 16 (by decide) lk5 (fun _ h9 => h9) rfl (by decide +kernel) rfl rfl (Nat.le_of_ble_eq_true rfl) (sm_16 cy A σ_27 v_63) dX11_next_249 ?_
                    refine g_aload_n X dX11_next_252 rfl 0 rfl ?_
                    refine g_dup X dX11_next_253 rfl ?_
                    refine g_get X (AD := A) mm0 (mE_0 cy A (si σ_27 16 v_63)) hin11 rfl 13 (by decide) lk0 (fun _ h9 => h9) rfl dX11_next_254 ?_
                    refine g_iconst X dX11_next_257 (v := (1 : Int32)) (by decide) ?_
                    refine g_iadd X dX11_next_258 ?_
                    refine g_put X (AD := A) (ty := .int) (v := .int ((gi (si σ_27 16 v_63) 13) + (1 : Int32))) (σ' := si (si σ_27 16 v_63) 13 ((gi (si σ_27 16 v_63) 13) + (1 : Int32))) mm0 (mE_0 cy A (si σ_27 16 v_63)) hin11 rfl tyX11 tyX11_ok nmX11 13 (by decide) lk0 (fun _ h9 => h9) rfl (by decide +kernel) rfl rfl (Nat.le_of_ble_eq_true rfl) (sm_13 cy A (si σ_27 16 v_63) ((gi (si σ_27 16 v_63) 13) + (1 : Int32))) dX11_next_259 ?_
                    obtain ⟨σ_67, e_68, h⟩ := bnd_some h
                    have e_68 := Option.some.inj e_68
                    rw [e_68]
                    refine g_goto X (tgt := 128) dX11_next_262 (by decide) ?_
                    exact g_sub [0, 1] rfl (ih_29 _ _ _ h K_30)
                  have h := hj_69
                  clear hj_69
                  refine g_icmp_le X (tgt := 217) dX11_next_208 (by decide) (fun hc_62 => ?_) (fun hc_62 => ?_)
                  · have h := ift hc_62 h
                    refine g_aload_n X dX11_next_217 rfl 1 rfl ?_
                    refine g_get X (AD := A) mm0 (mE_0 cy A σ_27) hin11 rfl 14 (by decide) lk4 (fun _ h9 => h9) rfl dX11_next_218 ?_
                    refine g_iconst X dX11_next_221 (v := (2 : Int32)) (by decide) ?_
                    refine g_icmp_ne X (tgt := 248) dX11_next_222 (by decide) (fun hc_65 => ?_) (fun hc_65 => ?_)
                    · have h := iff_ hc_65 h
                      refine g_iconst X dX11_next_248 (v := (0 : Int32)) (by decide) ?_
                      cases h
                      exact g_sub [1, 0] rfl K_64
                    · have h := ift hc_65 h
                      refine g_bipush X dX11_next_225 (v := (10 : Int32)) (by decide) ?_
                      refine g_aload_n X dX11_next_227 rfl 1 rfl ?_
                      refine g_get X (AD := A) mm0 (mE_0 cy A σ_27) hin11 rfl 16 (by decide) lk5 (fun _ h9 => h9) rfl dX11_next_228 ?_
                      refine g_imul X dX11_next_231 ?_
                      refine g_aload_n X dX11_next_232 rfl 1 rfl ?_
                      refine g_get X (AD := A) mm0 (mE_0 cy A σ_27) hin11 rfl 7 (by decide) lk2 (fun _ h9 => h9) rfl dX11_next_233 ?_
                      refine g_aload_n X dX11_next_236 rfl 1 rfl ?_
                      refine g_get X (AD := A) mm0 (mE_0 cy A σ_27) hin11 rfl 13 (by decide) lk0 (fun _ h9 => h9) rfl dX11_next_237 ?_
                      obtain ⟨hg_66, h⟩ := grd_some h
                      refine g_iald X (AD := A) mm8 (mE_8 cy A σ_27) 0 rfl hg_66 dX11_next_240 ?_
                      refine g_iadd X dX11_next_241 ?_
                      refine g_bipush X dX11_next_242 (v := (48 : Int32)) (by decide) ?_
                      refine g_isub X dX11_next_244 ?_
                      refine g_goto X (tgt := 249) dX11_next_245 (by decide) ?_
                      cases h
                      exact g_sub [1, 0] rfl K_64
                  · have h := iff_ hc_62 h
                    refine g_sipush X dX11_next_211 (v := (10000 : Int32)) (by decide) ?_
                    refine g_goto X (tgt := 249) dX11_next_214 (by decide) ?_
                    cases h
                    exact g_sub [1, 0] rfl K_64
        obtain ⟨σ_33, hl_70, h⟩ := bnd_some h
        refine g_sub [1, 0] rfl (L_32 FU (0 : Int32) σ_24 σ_33 hl_70 ?_)
        cases h
        exact g_vret (Wf := mW cy A X9) X rfl dX11_next_265
      have h := hj_71
      clear hj_71
      refine g_if_eq X (tgt := 86) dX11_next_79 (by decide) (fun hc_16 => ?_) (fun hc_16 => ?_)
      · have h := ift hc_16 h
        refine g_iload_n X dX11_next_86 rfl 0 rfl ?_
        obtain ⟨r_20, hf_19, h⟩ := bnd_some h
        refine g_callSI (AD := A) (As := [.int (gr (si σ_7 15 (gi σ_7 13)) 8 (gi (si σ_7 15 (gi σ_7 13)) 13).toNatClampNeg)]) X (ZC_ok _ _ _ _ _) (m_X11_isDigit hf_19) (va_cwS 1 X.1.2.2.2.2 gX11_next_X11_isDigit rfl rfl rfl (by decide +kernel) ⟨Nat.le_of_ble_eq_true rfl, Nat.le_of_ble_eq_true rfl⟩) rfl rfl (Nat.le_of_ble_eq_true rfl) ⟨by decide, by decide⟩ dX11_next_87 ?_
        refine g_if_eq X (tgt := 97) dX11_next_90 (by decide) (fun hc_21 => ?_) (fun hc_21 => ?_)
        · have h := ift hc_21 h
          refine g_iload_n X dX11_next_97 rfl 0 rfl ?_
          refine g_bipush X dX11_next_98 (v := (59 : Int32)) (by decide) ?_
          refine g_icmp_ne X (tgt := 107) dX11_next_100 (by decide) (fun hc_22 => ?_) (fun hc_22 => ?_)
          · have h := iff_ hc_22 h
            refine g_iload_n X dX11_next_107 rfl 0 rfl ?_
            refine g_bipush X dX11_next_108 (v := (45 : Int32)) (by decide) ?_
            refine g_icmp_ne X (tgt := 117) dX11_next_110 (by decide) (fun hc_23 => ?_) (fun hc_23 => ?_)
            · have h := iff_ hc_23 h
              refine g_iconst X dX11_next_117 (v := (5 : Int32)) (by decide) ?_
              cases h
              exact g_sub [1] rfl K_18
            · have h := ift hc_23 h
              refine g_iconst X dX11_next_113 (v := (4 : Int32)) (by decide) ?_
              refine g_goto X (tgt := 118) dX11_next_114 (by decide) ?_
              cases h
              exact g_sub [1] rfl K_18
          · have h := ift hc_22 h
            refine g_iconst X dX11_next_103 (v := (3 : Int32)) (by decide) ?_
            refine g_goto X (tgt := 118) dX11_next_104 (by decide) ?_
            cases h
            exact g_sub [1] rfl K_18
        · have h := iff_ hc_21 h
          refine g_iconst X dX11_next_93 (v := (2 : Int32)) (by decide) ?_
          refine g_goto X (tgt := 118) dX11_next_94 (by decide) ?_
          cases h
          exact g_sub [1] rfl K_18
      · have h := iff_ hc_16 h
        refine g_iconst X dX11_next_82 (v := (1 : Int32)) (by decide) ?_
        refine g_goto X (tgt := 118) dX11_next_83 (by decide) ?_
        cases h
        exact g_sub [1] rfl K_18
    · have h := ift hc_12 h
      refine g_aload_n X dX11_next_57 rfl 0 rfl ?_
      refine g_bipush X dX11_next_58 (v := (6 : Int32)) (by decide) ?_
      refine g_put X (AD := A) (ty := .int) (v := .int (6 : Int32)) (σ' := si (si σ_7 15 (gi σ_7 13)) 14 (6 : Int32)) mm0 (mE_0 cy A (si σ_7 15 (gi σ_7 13))) hin11 rfl tyX11 tyX11_ok nmX11 14 (by decide) lk4 (fun _ h9 => h9) rfl (by decide +kernel) rfl rfl (Nat.le_of_ble_eq_true rfl) (sm_14 cy A (si σ_7 15 (gi σ_7 13)) (6 : Int32)) dX11_next_60 ?_
      obtain ⟨σ_72, e_73, h⟩ := bnd_some h
      have e_73 := Option.some.inj e_73
      rw [e_73]
      cases h
      exact g_vret (Wf := mW cy A X9) X rfl dX11_next_63
  exact K0
set_option maxHeartbeats 8000000 in
set_option maxRecDepth 100000 in
theorem m_X11_isWrong {σ : St} {σ' : St} (h : f_X11_isWrong σ = some σ') : mV (ZC aK aO aS aV aT) D (cyT cy) l yX11_isWrong wsX11_isWrong ({ frames := 0, cells := 0, slots := 0, locals := 0 } : Room) (mW cy A X9) [.ref (A 0)] σ σ' := by
  unfold f_X11_isWrong at h
  refine mV_of (cc := cX11_isWrong) (maxL := 1) (ret := none) (by decide) rfl (Nat.le_of_ble_eq_true rfl) (fun p e s m args below meth c B X => ?_)
  have hin11 : ∀ w ∈ wsX110, w ∈ wsX11_isWrong := by decide +kernel
  have lk0 : Cond.fieldLink RX11 104 "CardcabinetModel" "wrong" "I" ∈ wsX11_isWrong := by decide +kernel
  have lk1 : Cond.fieldLink RX11 88 "CardcabinetModel" "tokenFrom" "I" ∈ wsX11_isWrong := by decide +kernel
  have K0 : gG p l e ({ frames := 0, cells := 0, slots := 0, locals := 0 } : Room) s m args below meth c D (cyT cy) B 1 (eV D (cyT cy) (mW cy A X9) B below args s σ') (mW cy A X9 σ) 0 0 0 [(0, .ref (A 0))] [] := by
    refine g_aload_n X dX11_isWrong_0 rfl 0 rfl ?_
    refine g_get X (AD := A) mm0 (mE_0 cy A σ) hin11 rfl 17 (by decide) lk0 (fun _ h9 => h9) rfl dX11_isWrong_1 ?_
    refine g_iconst X dX11_isWrong_4 (v := (-1 : Int32)) (by decide) ?_
    obtain ⟨σ_2, hj_4, h⟩ := bnd_some h
    have K_3 : gG p l e ({ frames := 0, cells := 0, slots := 0, locals := 0 } : Room) s m args below meth c D (cyT cy) B 1 (eV D (cyT cy) (mW cy A X9) B below args s σ') (mW cy A X9 σ_2) 0 0 16 [] [] := by
      cases h
      exact g_vret (Wf := mW cy A X9) X rfl dX11_isWrong_16
    have h := hj_4
    clear hj_4
    refine g_icmp_ne X (tgt := 16) dX11_isWrong_5 (by decide) (fun hc_1 => ?_) (fun hc_1 => ?_)
    · have h := iff_ hc_1 h
      cases h
      exact g_sub [] rfl K_3
    · have h := ift hc_1 h
      refine g_aload_n X dX11_isWrong_8 rfl 0 rfl ?_
      refine g_aload_n X dX11_isWrong_9 rfl 0 rfl ?_
      refine g_get X (AD := A) mm0 (mE_0 cy A σ) hin11 rfl 15 (by decide) lk1 (fun _ h9 => h9) rfl dX11_isWrong_10 ?_
      refine g_put X (AD := A) (ty := .int) (v := .int (gi σ 15)) (σ' := si σ 17 (gi σ 15)) mm0 (mE_0 cy A σ) hin11 rfl tyX11 tyX11_ok nmX11 17 (by decide) lk0 (fun _ h9 => h9) rfl (by decide +kernel) rfl rfl (Nat.le_of_ble_eq_true rfl) (sm_17 cy A σ (gi σ 15)) dX11_isWrong_13 ?_
      cases h
      exact g_sub [] rfl K_3
  exact K0
set_option maxHeartbeats 8000000 in
set_option maxRecDepth 100000 in
theorem m_X11_letterAt {σ : St} {a1 : Int32} {r : Int32} (h : f_X11_letterAt a1 σ = some r) : mI (ZC aK aO aS aV aT) D (cyT cy) l yX11_letterAt wsX11_letterAt ({ frames := 0, cells := 0, slots := 0, locals := 0 } : Room) (mW cy A X9) [.ref (A 0), .int a1] σ r σ := by
  unfold f_X11_letterAt at h
  refine mI_of (cc := cX11_letterAt) (maxL := 2) (ret := (some .int)) (by decide) rfl (Nat.le_of_ble_eq_true rfl) (fun p e s m args below meth c B X => ?_)
  have hin11 : ∀ w ∈ wsX110, w ∈ wsX11_letterAt := by decide +kernel
  have lk0 : Cond.fieldLink RX11 88 "CardcabinetModel" "tokenFrom" "I" ∈ wsX11_letterAt := by decide +kernel
  have lk1 : Cond.fieldLink RX11 85 "CardcabinetModel" "at" "I" ∈ wsX11_letterAt := by decide +kernel
  have lk2 : Cond.fieldLink RX11 28 "CardcabinetModel" "text" "[I" ∈ wsX11_letterAt := by decide +kernel
  have K0 : gG p l e ({ frames := 0, cells := 0, slots := 0, locals := 0 } : Room) s m args below meth c D (cyT cy) B 2 (eI D (cyT cy) (mW cy A X9) B below args s r σ) (mW cy A X9 σ) 0 0 0 [(0, .ref (A 0)), (1, .int a1)] [] := by
    refine g_aload_n X dX11_letterAt_0 rfl 0 rfl ?_
    refine g_get X (AD := A) mm0 (mE_0 cy A σ) hin11 rfl 15 (by decide) lk0 (fun _ h9 => h9) rfl dX11_letterAt_1 ?_
    refine g_iload_n X dX11_letterAt_4 rfl 1 rfl ?_
    refine g_iadd X dX11_letterAt_5 ?_
    refine g_aload_n X dX11_letterAt_6 rfl 0 rfl ?_
    refine g_get X (AD := A) mm0 (mE_0 cy A σ) hin11 rfl 13 (by decide) lk1 (fun _ h9 => h9) rfl dX11_letterAt_7 ?_
    obtain ⟨v_2, hj_5, h⟩ := bnd_some h
    have K_3 : gG p l e ({ frames := 0, cells := 0, slots := 0, locals := 0 } : Room) s m args below meth c D (cyT cy) B 2 (eI D (cyT cy) (mW cy A X9) B below args s r σ) (mW cy A X9 σ) 0 0 28 [] [.int v_2] := by
      cases h
      exact g_iret (Wf := mW cy A X9) X ⟨rfl, rfl⟩ dX11_letterAt_28
    have h := hj_5
    clear hj_5
    refine g_icmp_ge X (tgt := 27) dX11_letterAt_10 (by decide) (fun hc_1 => ?_) (fun hc_1 => ?_)
    · have h := ift hc_1 h
      refine g_iconst X dX11_letterAt_27 (v := (0 : Int32)) (by decide) ?_
      cases h
      exact g_sub [] rfl K_3
    · have h := iff_ hc_1 h
      refine g_aload_n X dX11_letterAt_13 rfl 0 rfl ?_
      refine g_get X (AD := A) mm0 (mE_0 cy A σ) hin11 rfl 7 (by decide) lk2 (fun _ h9 => h9) rfl dX11_letterAt_14 ?_
      refine g_aload_n X dX11_letterAt_17 rfl 0 rfl ?_
      refine g_get X (AD := A) mm0 (mE_0 cy A σ) hin11 rfl 15 (by decide) lk0 (fun _ h9 => h9) rfl dX11_letterAt_18 ?_
      refine g_iload_n X dX11_letterAt_21 rfl 1 rfl ?_
      refine g_iadd X dX11_letterAt_22 ?_
      obtain ⟨hg_4, h⟩ := grd_some h
      refine g_iald X (AD := A) mm8 (mE_8 cy A σ) 0 rfl hg_4 dX11_letterAt_23 ?_
      refine g_goto X (tgt := 28) dX11_letterAt_24 (by decide) ?_
      cases h
      exact g_sub [] rfl K_3
  exact K0
set_option maxHeartbeats 8000000 in
set_option maxRecDepth 100000 in
theorem m_X11_isWord {σ : St} {a1 : Int32} {a2 : Int32} {a3 : Int32} {a4 : Int32} {a5 : Int32} {r : Int32} (h : f_X11_isWord a1 a2 a3 a4 a5 σ = some r) : mI (ZC aK aO aS aV aT) D (cyT cy) l yX11_isWord wsX11_isWord ({ frames := 1, cells := 0, slots := 0, locals := 21 } : Room) (mW cy A X9) [.ref (A 0), .int a1, .int a2, .int a3, .int a4, .int a5] σ r σ := by
  unfold f_X11_isWord at h
  refine mI_of (cc := cX11_isWord) (maxL := 6) (ret := (some .boolean)) (by decide) rfl (Nat.le_of_ble_eq_true rfl) (fun p e s m args below meth c B X => ?_)
  have hin11 : ∀ w ∈ wsX110, w ∈ wsX11_isWord := by decide +kernel
  have lk0 : Cond.fieldLink RX11 91 "CardcabinetModel" "token" "I" ∈ wsX11_isWord := by decide +kernel
  have lk1 : Cond.fieldLink RX11 85 "CardcabinetModel" "at" "I" ∈ wsX11_isWord := by decide +kernel
  have lk2 : Cond.fieldLink RX11 88 "CardcabinetModel" "tokenFrom" "I" ∈ wsX11_isWord := by decide +kernel
  have K0 : gG p l e ({ frames := 1, cells := 0, slots := 0, locals := 21 } : Room) s m args below meth c D (cyT cy) B 6 (eI D (cyT cy) (mW cy A X9) B below args s r σ) (mW cy A X9 σ) 0 0 0 [(0, .ref (A 0)), (1, .int a1), (2, .int a2), (3, .int a3), (4, .int a4), (5, .int a5)] [] := by
    refine g_aload_n X dX11_isWord_0 rfl 0 rfl ?_
    refine g_get X (AD := A) mm0 (mE_0 cy A σ) hin11 rfl 14 (by decide) lk0 (fun _ h9 => h9) rfl dX11_isWord_1 ?_
    refine g_iconst X dX11_isWord_4 (v := (1 : Int32)) (by decide) ?_
    obtain ⟨v_2, hj_21, h⟩ := bnd_some h
    have K_3 : gG p l e ({ frames := 1, cells := 0, slots := 0, locals := 21 } : Room) s m args below meth c D (cyT cy) B 6 (eI D (cyT cy) (mW cy A X9) B below args s r σ) (mW cy A X9 σ) 0 0 73 [] [.int v_2] := by
      obtain ⟨hg_20, h⟩ := grd_some h
      cases h
      exact g_zret (Wf := mW cy A X9) X (nar01 hg_20) ⟨rfl, rfl⟩ dX11_isWord_73
    have h := hj_21
    clear hj_21
    refine g_icmp_ne X (tgt := 72) dX11_isWord_5 (by decide) (fun hc_1 => ?_) (fun hc_1 => ?_)
    · have h := iff_ hc_1 h
      refine g_iconst X dX11_isWord_72 (v := (0 : Int32)) (by decide) ?_
      cases h
      exact g_sub [] rfl K_3
    · have h := ift hc_1 h
      refine g_aload_n X dX11_isWord_8 rfl 0 rfl ?_
      refine g_get X (AD := A) mm0 (mE_0 cy A σ) hin11 rfl 13 (by decide) lk1 (fun _ h9 => h9) rfl dX11_isWord_9 ?_
      refine g_aload_n X dX11_isWord_12 rfl 0 rfl ?_
      refine g_get X (AD := A) mm0 (mE_0 cy A σ) hin11 rfl 15 (by decide) lk2 (fun _ h9 => h9) rfl dX11_isWord_13 ?_
      refine g_isub X dX11_isWord_16 ?_
      refine g_iconst X dX11_isWord_17 (v := (5 : Int32)) (by decide) ?_
      refine g_icmp_gt X (tgt := 72) dX11_isWord_18 (by decide) (fun hc_4 => ?_) (fun hc_4 => ?_)
      · have h := ift hc_4 h
        refine g_iconst X dX11_isWord_72 (v := (0 : Int32)) (by decide) ?_
        cases h
        exact g_sub [] rfl K_3
      · have h := iff_ hc_4 h
        refine g_aload_n X dX11_isWord_21 rfl 0 rfl ?_
        refine g_iconst X dX11_isWord_22 (v := (0 : Int32)) (by decide) ?_
        obtain ⟨r_6, hf_5, h⟩ := bnd_some h
        refine g_callVI (AD := A) (As := [.int (0 : Int32)]) X (ZC_ok _ _ _ _ _) (m_X11_letterAt hf_5) (cwV 1 X.1.2.2.2.2 gX11_isWord_X11_letterAt rfl rfl rfl (by decide +kernel) ⟨Nat.le_of_ble_eq_true rfl, Nat.le_of_ble_eq_true rfl⟩) rfl mm0 (mE_0 cy A σ) rfl rfl (Nat.le_of_ble_eq_true rfl) ⟨by decide, by decide⟩ dX11_isWord_23 ?_
        refine g_iload_n X dX11_isWord_26 rfl 1 rfl ?_
        refine g_icmp_ne X (tgt := 72) dX11_isWord_27 (by decide) (fun hc_7 => ?_) (fun hc_7 => ?_)
        · have h := iff_ hc_7 h
          refine g_iconst X dX11_isWord_72 (v := (0 : Int32)) (by decide) ?_
          cases h
          exact g_sub [] rfl K_3
        · have h := ift hc_7 h
          refine g_aload_n X dX11_isWord_30 rfl 0 rfl ?_
          refine g_iconst X dX11_isWord_31 (v := (1 : Int32)) (by decide) ?_
          obtain ⟨r_9, hf_8, h⟩ := bnd_some h
          refine g_callVI (AD := A) (As := [.int (1 : Int32)]) X (ZC_ok _ _ _ _ _) (m_X11_letterAt hf_8) (cwV 1 X.1.2.2.2.2 gX11_isWord_X11_letterAt rfl rfl rfl (by decide +kernel) ⟨Nat.le_of_ble_eq_true rfl, Nat.le_of_ble_eq_true rfl⟩) rfl mm0 (mE_0 cy A σ) rfl rfl (Nat.le_of_ble_eq_true rfl) ⟨by decide, by decide⟩ dX11_isWord_32 ?_
          refine g_iload_n X dX11_isWord_35 rfl 2 rfl ?_
          refine g_icmp_ne X (tgt := 72) dX11_isWord_36 (by decide) (fun hc_10 => ?_) (fun hc_10 => ?_)
          · have h := iff_ hc_10 h
            refine g_iconst X dX11_isWord_72 (v := (0 : Int32)) (by decide) ?_
            cases h
            exact g_sub [] rfl K_3
          · have h := ift hc_10 h
            refine g_aload_n X dX11_isWord_39 rfl 0 rfl ?_
            refine g_iconst X dX11_isWord_40 (v := (2 : Int32)) (by decide) ?_
            obtain ⟨r_12, hf_11, h⟩ := bnd_some h
            refine g_callVI (AD := A) (As := [.int (2 : Int32)]) X (ZC_ok _ _ _ _ _) (m_X11_letterAt hf_11) (cwV 1 X.1.2.2.2.2 gX11_isWord_X11_letterAt rfl rfl rfl (by decide +kernel) ⟨Nat.le_of_ble_eq_true rfl, Nat.le_of_ble_eq_true rfl⟩) rfl mm0 (mE_0 cy A σ) rfl rfl (Nat.le_of_ble_eq_true rfl) ⟨by decide, by decide⟩ dX11_isWord_41 ?_
            refine g_iload_n X dX11_isWord_44 rfl 3 rfl ?_
            refine g_icmp_ne X (tgt := 72) dX11_isWord_45 (by decide) (fun hc_13 => ?_) (fun hc_13 => ?_)
            · have h := iff_ hc_13 h
              refine g_iconst X dX11_isWord_72 (v := (0 : Int32)) (by decide) ?_
              cases h
              exact g_sub [] rfl K_3
            · have h := ift hc_13 h
              refine g_aload_n X dX11_isWord_48 rfl 0 rfl ?_
              refine g_iconst X dX11_isWord_49 (v := (3 : Int32)) (by decide) ?_
              obtain ⟨r_15, hf_14, h⟩ := bnd_some h
              refine g_callVI (AD := A) (As := [.int (3 : Int32)]) X (ZC_ok _ _ _ _ _) (m_X11_letterAt hf_14) (cwV 1 X.1.2.2.2.2 gX11_isWord_X11_letterAt rfl rfl rfl (by decide +kernel) ⟨Nat.le_of_ble_eq_true rfl, Nat.le_of_ble_eq_true rfl⟩) rfl mm0 (mE_0 cy A σ) rfl rfl (Nat.le_of_ble_eq_true rfl) ⟨by decide, by decide⟩ dX11_isWord_50 ?_
              refine g_iload X dX11_isWord_53 4 rfl ?_
              refine g_icmp_ne X (tgt := 72) dX11_isWord_55 (by decide) (fun hc_16 => ?_) (fun hc_16 => ?_)
              · have h := iff_ hc_16 h
                refine g_iconst X dX11_isWord_72 (v := (0 : Int32)) (by decide) ?_
                cases h
                exact g_sub [] rfl K_3
              · have h := ift hc_16 h
                refine g_aload_n X dX11_isWord_58 rfl 0 rfl ?_
                refine g_iconst X dX11_isWord_59 (v := (4 : Int32)) (by decide) ?_
                obtain ⟨r_18, hf_17, h⟩ := bnd_some h
                refine g_callVI (AD := A) (As := [.int (4 : Int32)]) X (ZC_ok _ _ _ _ _) (m_X11_letterAt hf_17) (cwV 1 X.1.2.2.2.2 gX11_isWord_X11_letterAt rfl rfl rfl (by decide +kernel) ⟨Nat.le_of_ble_eq_true rfl, Nat.le_of_ble_eq_true rfl⟩) rfl mm0 (mE_0 cy A σ) rfl rfl (Nat.le_of_ble_eq_true rfl) ⟨by decide, by decide⟩ dX11_isWord_60 ?_
                refine g_iload X dX11_isWord_63 5 rfl ?_
                refine g_icmp_ne X (tgt := 72) dX11_isWord_65 (by decide) (fun hc_19 => ?_) (fun hc_19 => ?_)
                · have h := iff_ hc_19 h
                  refine g_iconst X dX11_isWord_72 (v := (0 : Int32)) (by decide) ?_
                  cases h
                  exact g_sub [] rfl K_3
                · have h := ift hc_19 h
                  refine g_iconst X dX11_isWord_68 (v := (1 : Int32)) (by decide) ?_
                  refine g_goto X (tgt := 73) dX11_isWord_69 (by decide) ?_
                  cases h
                  exact g_sub [] rfl K_3
  exact K0
end MV
