section MV
variable {D : va_G} {cy : Nat → ClassId} {A aK aO aS aV aT : Nat → Nat} {l : Launch} {X9 : va_W}
set_option maxHeartbeats 8000000 in
set_option maxRecDepth 100000 in
theorem m_X11_single {σ : St} {a1 : Int32} {r : Int32} {σ' : St} (h : f_X11_single a1 σ = some (r, σ')) : mI (ZC aK aO aS aV aT) D (cyT cy) l yX11_single wsX11_single ({ frames := 2, cells := 0, slots := 0, locals := 42 } : Room) (mW cy A X9) [.ref (A 0), .int a1] σ r σ' := by
  unfold f_X11_single at h
  refine mI_of (cc := cX11_single) (maxL := 6) (ret := (some .int)) (by decide) rfl (Nat.le_of_ble_eq_true rfl) (fun p e s m args below meth c B X => ?_)
  have hin11 : ∀ w ∈ wsX110, w ∈ wsX11_single := by decide +kernel
  have lk0 : Cond.fieldLink RX11 22 "CardcabinetModel" "many" "[I" ∈ wsX11_single := by decide +kernel
  have lk1 : Cond.fieldLink RX11 16 "CardcabinetModel" "cards" "[I" ∈ wsX11_single := by decide +kernel
  have lk2 : Cond.fieldLink RX11 7 "CardcabinetModel" "firsts" "[I" ∈ wsX11_single := by decide +kernel
  have K0 : gG p l e ({ frames := 2, cells := 0, slots := 0, locals := 42 } : Room) s m args below meth c D (cyT cy) B 6 (eI D (cyT cy) (mW cy A X9) B below args s r σ') (mW cy A X9 σ) 0 0 0 [(0, .ref (A 0)), (1, .int a1)] [] := by
    refine g_iload_n X dX11_single_0 rfl 1 rfl ?_
    obtain ⟨r_2, hf_1, h⟩ := bnd_some h
    refine g_callSI (AD := A) (As := [.int a1]) X (ZC_ok _ _ _ _ _) (m_X11_isRow hf_1) (va_cwS 1 X.1.2.2.2.2 gX11_single_X11_isRow rfl rfl rfl (by decide +kernel) ⟨Nat.le_of_ble_eq_true rfl, Nat.le_of_ble_eq_true rfl⟩) rfl rfl (Nat.le_of_ble_eq_true rfl) ⟨by decide, by decide⟩ dX11_single_1 ?_
    refine g_if_ne X (tgt := 13) dX11_single_4 (by decide) (fun hc_3 => ?_) (fun hc_3 => ?_)
    · have h := iff_ hc_3 h
      refine g_iconst X dX11_single_13 (v := (0 : Int32)) (by decide) ?_
      refine g_istore_n X dX11_single_14 rfl (by decide) (lv' := [(2, .int (0 : Int32)), (0, .ref (A 0)), (1, .int a1)]) rfl ?_
      refine g_iconst X dX11_single_15 (v := (0 : Int32)) (by decide) ?_
      refine g_istore_n X dX11_single_16 rfl (by decide) (lv' := [(3, .int (0 : Int32)), (2, .int (0 : Int32)), (0, .ref (A 0)), (1, .int a1)]) rfl ?_
      refine g_iconst X dX11_single_17 (v := (0 : Int32)) (by decide) ?_
      refine g_istore X dX11_single_18 (by decide) (lv' := [(4, .int (0 : Int32)), (3, .int (0 : Int32)), (2, .int (0 : Int32)), (0, .ref (A 0)), (1, .int a1)]) rfl ?_
      have L_13 : ∀ (c_4 : Int32) (n_9 : Nat) (v_5 : Int32) (v_6 : Int32) (v_7 : Int32) (σ_8 : St) (o_15 : Int32) (σ_14 : St), f_X11_single_L20 c_4 n_9 v_5 v_6 v_7 σ_8 = some (o_15, σ_14) → gG p l e ({ frames := 2, cells := 0, slots := 0, locals := 42 } : Room) s m args below meth c D (cyT cy) B 6 (eI D (cyT cy) (mW cy A X9) B below args s r σ') (mW cy A X9 σ_14) 0 0 93 [(0, .ref (A 0)), (1, .int c_4), (2, .int o_15)] [] → gG p l e ({ frames := 2, cells := 0, slots := 0, locals := 42 } : Room) s m args below meth c D (cyT cy) B 6 (eI D (cyT cy) (mW cy A X9) B below args s r σ') (mW cy A X9 σ_8) 0 0 20 [(0, .ref (A 0)), (1, .int c_4), (2, .int v_5), (3, .int v_6), (4, .int v_7)] [] := by
        intro c_4 n_9
        induction n_9 with
        | zero =>
          intro v_5 v_6 v_7 σ_8 o_15 σ_14 h K_11
          rw [f_X11_single_L20] at h
          cases h
        | succ n_9 ih_10 =>
          intro v_5 v_6 v_7 σ_8 o_15 σ_14 h K_11
          rw [f_X11_single_L20] at h
          refine g_iload X dX11_single_20 4 rfl ?_
          refine g_aload_n X dX11_single_22 rfl 0 rfl ?_
          refine g_get X (AD := A) mm0 (mE_0 cy A σ_8) hin11 rfl 5 (by decide) lk0 (fun _ h9 => h9) rfl dX11_single_23 ?_
          refine g_iload_n X dX11_single_26 rfl 1 rfl ?_
          obtain ⟨hg_16, h⟩ := grd_some h
          refine g_iald X (AD := A) mm6 (mE_6 cy A σ_8) 0 rfl hg_16 dX11_single_27 ?_
          refine g_icmp_ge X (tgt := 93) dX11_single_28 (by decide) (fun hc_17 => ?_) (fun hc_17 => ?_)
          · have h := ift hc_17 h
            cases h
            exact g_sub [0, 1, 2] rfl K_11
          · have h := iff_ hc_17 h
            refine g_aload_n X dX11_single_31 rfl 0 rfl ?_
            refine g_get X (AD := A) mm0 (mE_0 cy A σ_8) hin11 rfl 3 (by decide) lk1 (fun _ h9 => h9) rfl dX11_single_32 ?_
            refine g_sipush X dX11_single_35 (v := (800 : Int32)) (by decide) ?_
            refine g_iload_n X dX11_single_38 rfl 1 rfl ?_
            refine g_imul X dX11_single_39 ?_
            refine g_iload X dX11_single_40 4 rfl ?_
            refine g_iadd X dX11_single_42 ?_
            obtain ⟨hg_18, h⟩ := grd_some h
            refine g_iald X (AD := A) mm4 (mE_4 cy A σ_8) 0 rfl hg_18 dX11_single_43 ?_
            refine g_istore X dX11_single_44 (by decide) (lv' := [(5, .int (gr σ_8 4 (((800 : Int32) * c_4) + v_7).toNatClampNeg)), (0, .ref (A 0)), (1, .int c_4), (2, .int v_5), (3, .int v_6), (4, .int v_7)]) rfl ?_
            refine g_iload X dX11_single_46 5 rfl ?_
            obtain ⟨v_20, σ_21, hj_32, h⟩ := bnd2_some h
            have K_22 : gG p l e ({ frames := 2, cells := 0, slots := 0, locals := 42 } : Room) s m args below meth c D (cyT cy) B 6 (eI D (cyT cy) (mW cy A X9) B below args s r σ') (mW cy A X9 σ_21) 0 0 79 [(0, .ref (A 0)), (1, .int c_4), (2, .int v_20), (4, .int v_7), (5, .int (gr σ_8 4 (((800 : Int32) * c_4) + v_7).toNatClampNeg))] [] := by
              refine g_aload_n X dX11_single_79 rfl 0 rfl ?_
              refine g_get X (AD := A) mm0 (mE_0 cy A σ_21) hin11 rfl 0 (by decide) lk2 (fun _ h9 => h9) rfl dX11_single_80 ?_
              refine g_iload X dX11_single_83 4 rfl ?_
              obtain ⟨hg_31, h⟩ := grd_some h
              refine g_iald X (AD := A) mm1 (mE_1 cy A σ_21) 0 rfl hg_31 dX11_single_85 ?_
              refine g_istore_n X dX11_single_86 rfl (by decide) (lv' := [(3, .int (gr σ_21 1 (gr σ_8 4 (((800 : Int32) * c_4) + v_7).toNatClampNeg).toNatClampNeg)), (0, .ref (A 0)), (1, .int c_4), (2, .int v_20), (4, .int v_7), (5, .int (gr σ_8 4 (((800 : Int32) * c_4) + v_7).toNatClampNeg))]) rfl ?_
              refine g_iinc X dX11_single_87 4 rfl (v := v_7 + (1 : Int32)) rfl (by decide) (lv' := [(4, .int (v_7 + (1 : Int32))), (3, .int (gr σ_21 1 (gr σ_8 4 (((800 : Int32) * c_4) + v_7).toNatClampNeg).toNatClampNeg)), (0, .ref (A 0)), (1, .int c_4), (2, .int v_20), (5, .int (gr σ_8 4 (((800 : Int32) * c_4) + v_7).toNatClampNeg))]) rfl ?_
              refine g_goto X (tgt := 20) dX11_single_90 (by decide) ?_
              exact g_sub [2, 3, 4, 1, 0] rfl (ih_10 _ _ _ _ _ _ h K_11)
            have h := hj_32
            clear hj_32
            refine g_if_eq X (tgt := 62) dX11_single_48 (by decide) (fun hc_19 => ?_) (fun hc_19 => ?_)
            · have h := ift hc_19 h
              refine g_aload_n X dX11_single_62 rfl 1 rfl ?_
              refine g_get X (AD := A) mm0 (mE_0 cy A σ_8) hin11 rfl 3 (by decide) lk1 (fun _ h9 => h9) rfl dX11_single_63 ?_
              refine g_sipush X dX11_single_66 (v := (800 : Int32)) (by decide) ?_
              refine g_iload_n X dX11_single_69 rfl 2 rfl ?_
              refine g_imul X dX11_single_70 ?_
              refine g_iload_n X dX11_single_71 rfl 3 rfl ?_
              refine g_iadd X dX11_single_72 ?_
              refine g_iload X dX11_single_73 0 rfl ?_
              obtain ⟨hg_23, h⟩ := grd_some h
              refine g_iast X (AD := A) (σ' := sr σ_8 4 (upd (gr σ_8 4) (((800 : Int32) * c_4) + v_5).toNatClampNeg (gr σ_8 4 (((800 : Int32) * c_4) + v_7).toNatClampNeg))) mm4 (mE_4 cy A σ_8) 0 rfl hg_23 (sm_a4 cy A σ_8 (upd (gr σ_8 4) (((800 : Int32) * c_4) + v_5).toNatClampNeg (gr σ_8 4 (((800 : Int32) * c_4) + v_7).toNatClampNeg))) dX11_single_75 ?_
              obtain ⟨σ_24, e_25, h⟩ := bnd_some h
              have e_25 := Option.some.inj e_25
              rw [e_25]
              refine g_iinc X dX11_single_76 3 rfl (v := v_5 + (1 : Int32)) rfl (by decide) (lv' := [(2, .int (v_5 + (1 : Int32))), (5, .int (gr σ_8 4 (((800 : Int32) * c_4) + v_7).toNatClampNeg)), (0, .ref (A 0)), (1, .int c_4), (3, .int v_6), (4, .int v_7)]) rfl ?_
              cases h
              exact g_sub [2, 3, 0, 5, 1] rfl K_22
            · have h := iff_ hc_19 h
              refine g_aload_n X dX11_single_51 rfl 1 rfl ?_
              refine g_get X (AD := A) mm0 (mE_0 cy A σ_8) hin11 rfl 0 (by decide) lk2 (fun _ h9 => h9) rfl dX11_single_52 ?_
              refine g_iload X dX11_single_55 0 rfl ?_
              obtain ⟨hg_26, h⟩ := grd_some h
              refine g_iald X (AD := A) mm1 (mE_1 cy A σ_8) 0 rfl hg_26 dX11_single_57 ?_
              refine g_iload_n X dX11_single_58 rfl 4 rfl ?_
              refine g_icmp_eq X (tgt := 79) dX11_single_59 (by decide) (fun hc_27 => ?_) (fun hc_27 => ?_)
              · have h := ift hc_27 h
                cases h
                exact g_sub [1, 2, 3, 5, 0] rfl K_22
              · have h := iff_ hc_27 h
                refine g_aload_n X dX11_single_62 rfl 1 rfl ?_
                refine g_get X (AD := A) mm0 (mE_0 cy A σ_8) hin11 rfl 3 (by decide) lk1 (fun _ h9 => h9) rfl dX11_single_63 ?_
                refine g_sipush X dX11_single_66 (v := (800 : Int32)) (by decide) ?_
                refine g_iload_n X dX11_single_69 rfl 2 rfl ?_
                refine g_imul X dX11_single_70 ?_
                refine g_iload_n X dX11_single_71 rfl 3 rfl ?_
                refine g_iadd X dX11_single_72 ?_
                refine g_iload X dX11_single_73 0 rfl ?_
                obtain ⟨hg_28, h⟩ := grd_some h
                refine g_iast X (AD := A) (σ' := sr σ_8 4 (upd (gr σ_8 4) (((800 : Int32) * c_4) + v_5).toNatClampNeg (gr σ_8 4 (((800 : Int32) * c_4) + v_7).toNatClampNeg))) mm4 (mE_4 cy A σ_8) 0 rfl hg_28 (sm_a4 cy A σ_8 (upd (gr σ_8 4) (((800 : Int32) * c_4) + v_5).toNatClampNeg (gr σ_8 4 (((800 : Int32) * c_4) + v_7).toNatClampNeg))) dX11_single_75 ?_
                obtain ⟨σ_29, e_30, h⟩ := bnd_some h
                have e_30 := Option.some.inj e_30
                rw [e_30]
                refine g_iinc X dX11_single_76 3 rfl (v := v_5 + (1 : Int32)) rfl (by decide) (lv' := [(2, .int (v_5 + (1 : Int32))), (5, .int (gr σ_8 4 (((800 : Int32) * c_4) + v_7).toNatClampNeg)), (0, .ref (A 0)), (1, .int c_4), (3, .int v_6), (4, .int v_7)]) rfl ?_
                cases h
                exact g_sub [2, 3, 0, 5, 1] rfl K_22
      obtain ⟨o_15, σ_14, hl_33, h⟩ := bnd2_some h
      refine g_sub [3, 4, 2, 1, 0] rfl (L_13 a1 FU (0 : Int32) (0 : Int32) (0 : Int32) σ o_15 σ_14 hl_33 ?_)
      refine g_aload_n X dX11_single_93 rfl 0 rfl ?_
      refine g_get X (AD := A) mm0 (mE_0 cy A σ_14) hin11 rfl 5 (by decide) lk0 (fun _ h9 => h9) rfl dX11_single_94 ?_
      refine g_iload_n X dX11_single_97 rfl 1 rfl ?_
      obtain ⟨hg_34, h⟩ := grd_some h
      refine g_iald X (AD := A) mm6 (mE_6 cy A σ_14) 0 rfl hg_34 dX11_single_98 ?_
      refine g_iload_n X dX11_single_99 rfl 2 rfl ?_
      refine g_isub X dX11_single_100 ?_
      refine g_istore X dX11_single_101 (by decide) (lv' := [(4, .int ((gr σ_14 6 a1.toNatClampNeg) - o_15)), (0, .ref (A 0)), (1, .int a1), (2, .int o_15)]) rfl ?_
      refine g_aload_n X dX11_single_103 rfl 1 rfl ?_
      refine g_get X (AD := A) mm0 (mE_0 cy A σ_14) hin11 rfl 5 (by decide) lk0 (fun _ h9 => h9) rfl dX11_single_104 ?_
      refine g_iload_n X dX11_single_107 rfl 2 rfl ?_
      refine g_iload_n X dX11_single_108 rfl 3 rfl ?_
      obtain ⟨hg_35, h⟩ := grd_some h
      refine g_iast X (AD := A) (σ' := sr σ_14 6 (upd (gr σ_14 6) a1.toNatClampNeg o_15)) mm6 (mE_6 cy A σ_14) 0 rfl hg_35 (sm_a6 cy A σ_14 (upd (gr σ_14 6) a1.toNatClampNeg o_15)) dX11_single_109 ?_
      obtain ⟨σ_36, e_37, h⟩ := bnd_some h
      have e_37 := Option.some.inj e_37
      rw [e_37]
      refine g_aload_n X dX11_single_110 rfl 1 rfl ?_
      refine g_iload X dX11_single_111 0 rfl ?_
      obtain ⟨r_39, σ_40, hf_38, h⟩ := bnd2_some h
      refine g_callVI (AD := A) (As := [.int ((gr σ_14 6 a1.toNatClampNeg) - o_15)]) X (ZC_ok _ _ _ _ _) (m_X11_told hf_38) (cwV 1 X.1.2.2.2.2 gX11_single_X11_told rfl rfl rfl (by decide +kernel) ⟨Nat.le_of_ble_eq_true rfl, Nat.le_of_ble_eq_true rfl⟩) rfl mm0 (mE_0 cy A σ_36) rfl rfl (Nat.le_of_ble_eq_true rfl) ⟨by decide, by decide⟩ dX11_single_113 ?_
      cases h
      exact g_iret (Wf := mW cy A X9) X ⟨rfl, rfl⟩ dX11_single_116
    · have h := ift hc_3 h
      refine g_aload_n X dX11_single_7 rfl 0 rfl ?_
      refine g_iconst X dX11_single_8 (v := (1 : Int32)) (by decide) ?_
      obtain ⟨r_42, σ_43, hf_41, h⟩ := bnd2_some h
      refine g_callVI (AD := A) (As := [.int (1 : Int32)]) X (ZC_ok _ _ _ _ _) (m_X11_refuse hf_41) (cwV 1 X.1.2.2.2.2 gX11_single_X11_refuse rfl rfl rfl (by decide +kernel) ⟨Nat.le_of_ble_eq_true rfl, Nat.le_of_ble_eq_true rfl⟩) rfl mm0 (mE_0 cy A σ) rfl rfl (Nat.le_of_ble_eq_true rfl) ⟨by decide, by decide⟩ dX11_single_9 ?_
      cases h
      exact g_iret (Wf := mW cy A X9) X ⟨rfl, rfl⟩ dX11_single_12
  exact K0
set_option maxHeartbeats 8000000 in
set_option maxRecDepth 100000 in
theorem m_X11_empty {σ : St} {a1 : Int32} {r : Int32} {σ' : St} (h : f_X11_empty a1 σ = some (r, σ')) : mI (ZC aK aO aS aV aT) D (cyT cy) l yX11_empty wsX11_empty ({ frames := 2, cells := 0, slots := 0, locals := 42 } : Room) (mW cy A X9) [.ref (A 0), .int a1] σ r σ' := by
  unfold f_X11_empty at h
  refine mI_of (cc := cX11_empty) (maxL := 3) (ret := (some .int)) (by decide) rfl (Nat.le_of_ble_eq_true rfl) (fun p e s m args below meth c B X => ?_)
  have hin11 : ∀ w ∈ wsX110, w ∈ wsX11_empty := by decide +kernel
  have lk0 : Cond.fieldLink RX11 22 "CardcabinetModel" "many" "[I" ∈ wsX11_empty := by decide +kernel
  have K0 : gG p l e ({ frames := 2, cells := 0, slots := 0, locals := 42 } : Room) s m args below meth c D (cyT cy) B 3 (eI D (cyT cy) (mW cy A X9) B below args s r σ') (mW cy A X9 σ) 0 0 0 [(0, .ref (A 0)), (1, .int a1)] [] := by
    refine g_iload_n X dX11_empty_0 rfl 1 rfl ?_
    obtain ⟨r_2, hf_1, h⟩ := bnd_some h
    refine g_callSI (AD := A) (As := [.int a1]) X (ZC_ok _ _ _ _ _) (m_X11_isRow hf_1) (va_cwS 1 X.1.2.2.2.2 gX11_empty_X11_isRow rfl rfl rfl (by decide +kernel) ⟨Nat.le_of_ble_eq_true rfl, Nat.le_of_ble_eq_true rfl⟩) rfl rfl (Nat.le_of_ble_eq_true rfl) ⟨by decide, by decide⟩ dX11_empty_1 ?_
    refine g_if_ne X (tgt := 13) dX11_empty_4 (by decide) (fun hc_3 => ?_) (fun hc_3 => ?_)
    · have h := iff_ hc_3 h
      refine g_aload_n X dX11_empty_13 rfl 0 rfl ?_
      refine g_get X (AD := A) mm0 (mE_0 cy A σ) hin11 rfl 5 (by decide) lk0 (fun _ h9 => h9) rfl dX11_empty_14 ?_
      refine g_iload_n X dX11_empty_17 rfl 1 rfl ?_
      obtain ⟨hg_4, h⟩ := grd_some h
      refine g_iald X (AD := A) mm6 (mE_6 cy A σ) 0 rfl hg_4 dX11_empty_18 ?_
      refine g_istore_n X dX11_empty_19 rfl (by decide) (lv' := [(2, .int (gr σ 6 a1.toNatClampNeg)), (0, .ref (A 0)), (1, .int a1)]) rfl ?_
      refine g_aload_n X dX11_empty_20 rfl 1 rfl ?_
      refine g_get X (AD := A) mm0 (mE_0 cy A σ) hin11 rfl 5 (by decide) lk0 (fun _ h9 => h9) rfl dX11_empty_21 ?_
      refine g_iload_n X dX11_empty_24 rfl 2 rfl ?_
      refine g_iconst X dX11_empty_25 (v := (0 : Int32)) (by decide) ?_
      obtain ⟨hg_5, h⟩ := grd_some h
      refine g_iast X (AD := A) (σ' := sr σ 6 (upd (gr σ 6) a1.toNatClampNeg (0 : Int32))) mm6 (mE_6 cy A σ) 0 rfl hg_5 (sm_a6 cy A σ (upd (gr σ 6) a1.toNatClampNeg (0 : Int32))) dX11_empty_26 ?_
      obtain ⟨σ_6, e_7, h⟩ := bnd_some h
      have e_7 := Option.some.inj e_7
      rw [e_7]
      refine g_aload_n X dX11_empty_27 rfl 1 rfl ?_
      refine g_iload_n X dX11_empty_28 rfl 0 rfl ?_
      obtain ⟨r_9, σ_10, hf_8, h⟩ := bnd2_some h
      refine g_callVI (AD := A) (As := [.int (gr σ 6 a1.toNatClampNeg)]) X (ZC_ok _ _ _ _ _) (m_X11_told hf_8) (cwV 1 X.1.2.2.2.2 gX11_empty_X11_told rfl rfl rfl (by decide +kernel) ⟨Nat.le_of_ble_eq_true rfl, Nat.le_of_ble_eq_true rfl⟩) rfl mm0 (mE_0 cy A σ_6) rfl rfl (Nat.le_of_ble_eq_true rfl) ⟨by decide, by decide⟩ dX11_empty_29 ?_
      cases h
      exact g_iret (Wf := mW cy A X9) X ⟨rfl, rfl⟩ dX11_empty_32
    · have h := ift hc_3 h
      refine g_aload_n X dX11_empty_7 rfl 0 rfl ?_
      refine g_iconst X dX11_empty_8 (v := (1 : Int32)) (by decide) ?_
      obtain ⟨r_12, σ_13, hf_11, h⟩ := bnd2_some h
      refine g_callVI (AD := A) (As := [.int (1 : Int32)]) X (ZC_ok _ _ _ _ _) (m_X11_refuse hf_11) (cwV 1 X.1.2.2.2.2 gX11_empty_X11_refuse rfl rfl rfl (by decide +kernel) ⟨Nat.le_of_ble_eq_true rfl, Nat.le_of_ble_eq_true rfl⟩) rfl mm0 (mE_0 cy A σ) rfl rfl (Nat.le_of_ble_eq_true rfl) ⟨by decide, by decide⟩ dX11_empty_9 ?_
      cases h
      exact g_iret (Wf := mW cy A X9) X ⟨rfl, rfl⟩ dX11_empty_12
  exact K0
set_option maxHeartbeats 8000000 in
set_option maxRecDepth 100000 in
theorem m_X11_keep {σ : St} {a1 : Int32} {r : Int32} {σ' : St} (h : f_X11_keep a1 σ = some (r, σ')) : mI (ZC aK aO aS aV aT) D (cyT cy) l yX11_keep wsX11_keep ({ frames := 2, cells := 0, slots := 0, locals := 42 } : Room) (mW cy A X9) [.ref (A 0), .int a1] σ r σ' := by
  unfold f_X11_keep at h
  refine mI_of (cc := cX11_keep) (maxL := 3) (ret := (some .int)) (by decide) rfl (Nat.le_of_ble_eq_true rfl) (fun p e s m args below meth c B X => ?_)
  have hin11 : ∀ w ∈ wsX110, w ∈ wsX11_keep := by decide +kernel
  have lk0 : Cond.fieldLink RX11 22 "CardcabinetModel" "many" "[I" ∈ wsX11_keep := by decide +kernel
  have lk1 : Cond.fieldLink RX11 19 "CardcabinetModel" "kept" "[I" ∈ wsX11_keep := by decide +kernel
  have lk2 : Cond.fieldLink RX11 16 "CardcabinetModel" "cards" "[I" ∈ wsX11_keep := by decide +kernel
  have lk3 : Cond.fieldLink RX11 25 "CardcabinetModel" "keptMany" "[I" ∈ wsX11_keep := by decide +kernel
  have K0 : gG p l e ({ frames := 2, cells := 0, slots := 0, locals := 42 } : Room) s m args below meth c D (cyT cy) B 3 (eI D (cyT cy) (mW cy A X9) B below args s r σ') (mW cy A X9 σ) 0 0 0 [(0, .ref (A 0)), (1, .int a1)] [] := by
    refine g_iload_n X dX11_keep_0 rfl 1 rfl ?_
    obtain ⟨r_2, hf_1, h⟩ := bnd_some h
    refine g_callSI (AD := A) (As := [.int a1]) X (ZC_ok _ _ _ _ _) (m_X11_isRow hf_1) (va_cwS 1 X.1.2.2.2.2 gX11_keep_X11_isRow rfl rfl rfl (by decide +kernel) ⟨Nat.le_of_ble_eq_true rfl, Nat.le_of_ble_eq_true rfl⟩) rfl rfl (Nat.le_of_ble_eq_true rfl) ⟨by decide, by decide⟩ dX11_keep_1 ?_
    refine g_if_ne X (tgt := 13) dX11_keep_4 (by decide) (fun hc_3 => ?_) (fun hc_3 => ?_)
    · have h := iff_ hc_3 h
      refine g_iconst X dX11_keep_13 (v := (0 : Int32)) (by decide) ?_
      refine g_istore_n X dX11_keep_14 rfl (by decide) (lv' := [(2, .int (0 : Int32)), (0, .ref (A 0)), (1, .int a1)]) rfl ?_
      have L_11 : ∀ (c_4 : Int32) (n_7 : Nat) (v_5 : Int32) (σ_6 : St) (σ_12 : St), f_X11_keep_L15 c_4 n_7 v_5 σ_6 = some (σ_12) → gG p l e ({ frames := 2, cells := 0, slots := 0, locals := 42 } : Room) s m args below meth c D (cyT cy) B 3 (eI D (cyT cy) (mW cy A X9) B below args s r σ') (mW cy A X9 σ_12) 0 0 55 [(0, .ref (A 0)), (1, .int c_4)] [] → gG p l e ({ frames := 2, cells := 0, slots := 0, locals := 42 } : Room) s m args below meth c D (cyT cy) B 3 (eI D (cyT cy) (mW cy A X9) B below args s r σ') (mW cy A X9 σ_6) 0 0 15 [(0, .ref (A 0)), (1, .int c_4), (2, .int v_5)] [] := by
        intro c_4 n_7
        induction n_7 with
        | zero =>
          intro v_5 σ_6 σ_12 h K_9
          rw [f_X11_keep_L15] at h
          cases h
        | succ n_7 ih_8 =>
          intro v_5 σ_6 σ_12 h K_9
          rw [f_X11_keep_L15] at h
          refine g_iload_n X dX11_keep_15 rfl 2 rfl ?_
          refine g_aload_n X dX11_keep_16 rfl 0 rfl ?_
          refine g_get X (AD := A) mm0 (mE_0 cy A σ_6) hin11 rfl 5 (by decide) lk0 (fun _ h9 => h9) rfl dX11_keep_17 ?_
          refine g_iload_n X dX11_keep_20 rfl 1 rfl ?_
          obtain ⟨hg_13, h⟩ := grd_some h
          refine g_iald X (AD := A) mm6 (mE_6 cy A σ_6) 0 rfl hg_13 dX11_keep_21 ?_
          refine g_icmp_ge X (tgt := 55) dX11_keep_22 (by decide) (fun hc_14 => ?_) (fun hc_14 => ?_)
          · have h := ift hc_14 h
            cases h
            exact g_sub [0, 1] rfl K_9
          · have h := iff_ hc_14 h
            refine g_aload_n X dX11_keep_25 rfl 0 rfl ?_
            refine g_get X (AD := A) mm0 (mE_0 cy A σ_6) hin11 rfl 4 (by decide) lk1 (fun _ h9 => h9) rfl dX11_keep_26 ?_
            refine g_sipush X dX11_keep_29 (v := (800 : Int32)) (by decide) ?_
            refine g_iload_n X dX11_keep_32 rfl 1 rfl ?_
            refine g_imul X dX11_keep_33 ?_
            refine g_iload_n X dX11_keep_34 rfl 2 rfl ?_
            refine g_iadd X dX11_keep_35 ?_
            refine g_aload_n X dX11_keep_36 rfl 0 rfl ?_
            refine g_get X (AD := A) mm0 (mE_0 cy A σ_6) hin11 rfl 3 (by decide) lk2 (fun _ h9 => h9) rfl dX11_keep_37 ?_
            refine g_sipush X dX11_keep_40 (v := (800 : Int32)) (by decide) ?_
            refine g_iload_n X dX11_keep_43 rfl 1 rfl ?_
            refine g_imul X dX11_keep_44 ?_
            refine g_iload_n X dX11_keep_45 rfl 2 rfl ?_
            refine g_iadd X dX11_keep_46 ?_
            obtain ⟨hg_15, h⟩ := grd_some h
            refine g_iald X (AD := A) mm4 (mE_4 cy A σ_6) 0 rfl hg_15 dX11_keep_47 ?_
            obtain ⟨hg_16, h⟩ := grd_some h
            refine g_iast X (AD := A) (σ' := sr σ_6 5 (upd (gr σ_6 5) (((800 : Int32) * c_4) + v_5).toNatClampNeg (gr σ_6 4 (((800 : Int32) * c_4) + v_5).toNatClampNeg))) mm5 (mE_5 cy A σ_6) 0 rfl hg_16 (sm_a5 cy A σ_6 (upd (gr σ_6 5) (((800 : Int32) * c_4) + v_5).toNatClampNeg (gr σ_6 4 (((800 : Int32) * c_4) + v_5).toNatClampNeg))) dX11_keep_48 ?_
            obtain ⟨σ_17, e_18, h⟩ := bnd_some h
            have e_18 := Option.some.inj e_18
            rw [e_18]
            refine g_iinc X dX11_keep_49 2 rfl (v := v_5 + (1 : Int32)) rfl (by decide) (lv' := [(2, .int (v_5 + (1 : Int32))), (0, .ref (A 0)), (1, .int c_4)]) rfl ?_
            refine g_goto X (tgt := 15) dX11_keep_52 (by decide) ?_
            exact g_sub [1, 2, 0] rfl (ih_8 _ _ _ h K_9)
      obtain ⟨σ_12, hl_19, h⟩ := bnd_some h
      refine g_sub [1, 2, 0] rfl (L_11 a1 FU (0 : Int32) σ σ_12 hl_19 ?_)
      refine g_aload_n X dX11_keep_55 rfl 0 rfl ?_
      refine g_get X (AD := A) mm0 (mE_0 cy A σ_12) hin11 rfl 6 (by decide) lk3 (fun _ h9 => h9) rfl dX11_keep_56 ?_
      refine g_iload_n X dX11_keep_59 rfl 1 rfl ?_
      refine g_aload_n X dX11_keep_60 rfl 0 rfl ?_
      refine g_get X (AD := A) mm0 (mE_0 cy A σ_12) hin11 rfl 5 (by decide) lk0 (fun _ h9 => h9) rfl dX11_keep_61 ?_
      refine g_iload_n X dX11_keep_64 rfl 1 rfl ?_
      obtain ⟨hg_20, h⟩ := grd_some h
      refine g_iald X (AD := A) mm6 (mE_6 cy A σ_12) 0 rfl hg_20 dX11_keep_65 ?_
      obtain ⟨hg_21, h⟩ := grd_some h
      refine g_iast X (AD := A) (σ' := sr σ_12 7 (upd (gr σ_12 7) a1.toNatClampNeg (gr σ_12 6 a1.toNatClampNeg))) mm7 (mE_7 cy A σ_12) 0 rfl hg_21 (sm_a7 cy A σ_12 (upd (gr σ_12 7) a1.toNatClampNeg (gr σ_12 6 a1.toNatClampNeg))) dX11_keep_66 ?_
      obtain ⟨σ_22, e_23, h⟩ := bnd_some h
      have e_23 := Option.some.inj e_23
      rw [e_23]
      refine g_aload_n X dX11_keep_67 rfl 0 rfl ?_
      refine g_aload_n X dX11_keep_68 rfl 0 rfl ?_
      refine g_get X (AD := A) mm0 (mE_0 cy A σ_22) hin11 rfl 5 (by decide) lk0 (fun _ h9 => h9) rfl dX11_keep_69 ?_
      refine g_iload_n X dX11_keep_72 rfl 1 rfl ?_
      obtain ⟨hg_24, h⟩ := grd_some h
      refine g_iald X (AD := A) mm6 (mE_6 cy A σ_22) 0 rfl hg_24 dX11_keep_73 ?_
      obtain ⟨r_26, σ_27, hf_25, h⟩ := bnd2_some h
      refine g_callVI (AD := A) (As := [.int (gr σ_22 6 a1.toNatClampNeg)]) X (ZC_ok _ _ _ _ _) (m_X11_told hf_25) (cwV 1 X.1.2.2.2.2 gX11_keep_X11_told rfl rfl rfl (by decide +kernel) ⟨Nat.le_of_ble_eq_true rfl, Nat.le_of_ble_eq_true rfl⟩) rfl mm0 (mE_0 cy A σ_22) rfl rfl (Nat.le_of_ble_eq_true rfl) ⟨by decide, by decide⟩ dX11_keep_74 ?_
      cases h
      exact g_iret (Wf := mW cy A X9) X ⟨rfl, rfl⟩ dX11_keep_77
    · have h := ift hc_3 h
      refine g_aload_n X dX11_keep_7 rfl 0 rfl ?_
      refine g_iconst X dX11_keep_8 (v := (1 : Int32)) (by decide) ?_
      obtain ⟨r_29, σ_30, hf_28, h⟩ := bnd2_some h
      refine g_callVI (AD := A) (As := [.int (1 : Int32)]) X (ZC_ok _ _ _ _ _) (m_X11_refuse hf_28) (cwV 1 X.1.2.2.2.2 gX11_keep_X11_refuse rfl rfl rfl (by decide +kernel) ⟨Nat.le_of_ble_eq_true rfl, Nat.le_of_ble_eq_true rfl⟩) rfl mm0 (mE_0 cy A σ) rfl rfl (Nat.le_of_ble_eq_true rfl) ⟨by decide, by decide⟩ dX11_keep_9 ?_
      cases h
      exact g_iret (Wf := mW cy A X9) X ⟨rfl, rfl⟩ dX11_keep_12
  exact K0
set_option maxHeartbeats 8000000 in
set_option maxRecDepth 100000 in
theorem m_X11_restore {σ : St} {a1 : Int32} {r : Int32} {σ' : St} (h : f_X11_restore a1 σ = some (r, σ')) : mI (ZC aK aO aS aV aT) D (cyT cy) l yX11_restore wsX11_restore ({ frames := 2, cells := 0, slots := 0, locals := 42 } : Room) (mW cy A X9) [.ref (A 0), .int a1] σ r σ' := by
  unfold f_X11_restore at h
  refine mI_of (cc := cX11_restore) (maxL := 4) (ret := (some .int)) (by decide) rfl (Nat.le_of_ble_eq_true rfl) (fun p e s m args below meth c B X => ?_)
  have hin11 : ∀ w ∈ wsX110, w ∈ wsX11_restore := by decide +kernel
  have lk0 : Cond.fieldLink RX11 25 "CardcabinetModel" "keptMany" "[I" ∈ wsX11_restore := by decide +kernel
  have lk1 : Cond.fieldLink RX11 22 "CardcabinetModel" "many" "[I" ∈ wsX11_restore := by decide +kernel
  have lk2 : Cond.fieldLink RX11 16 "CardcabinetModel" "cards" "[I" ∈ wsX11_restore := by decide +kernel
  have lk3 : Cond.fieldLink RX11 19 "CardcabinetModel" "kept" "[I" ∈ wsX11_restore := by decide +kernel
  have K0 : gG p l e ({ frames := 2, cells := 0, slots := 0, locals := 42 } : Room) s m args below meth c D (cyT cy) B 4 (eI D (cyT cy) (mW cy A X9) B below args s r σ') (mW cy A X9 σ) 0 0 0 [(0, .ref (A 0)), (1, .int a1)] [] := by
    refine g_iload_n X dX11_restore_0 rfl 1 rfl ?_
    obtain ⟨r_2, hf_1, h⟩ := bnd_some h
    refine g_callSI (AD := A) (As := [.int a1]) X (ZC_ok _ _ _ _ _) (m_X11_isRow hf_1) (va_cwS 1 X.1.2.2.2.2 gX11_restore_X11_isRow rfl rfl rfl (by decide +kernel) ⟨Nat.le_of_ble_eq_true rfl, Nat.le_of_ble_eq_true rfl⟩) rfl rfl (Nat.le_of_ble_eq_true rfl) ⟨by decide, by decide⟩ dX11_restore_1 ?_
    refine g_if_ne X (tgt := 13) dX11_restore_4 (by decide) (fun hc_3 => ?_) (fun hc_3 => ?_)
    · have h := iff_ hc_3 h
      refine g_aload_n X dX11_restore_13 rfl 0 rfl ?_
      refine g_get X (AD := A) mm0 (mE_0 cy A σ) hin11 rfl 6 (by decide) lk0 (fun _ h9 => h9) rfl dX11_restore_14 ?_
      refine g_iload_n X dX11_restore_17 rfl 1 rfl ?_
      obtain ⟨hg_4, h⟩ := grd_some h
      refine g_iald X (AD := A) mm7 (mE_7 cy A σ) 0 rfl hg_4 dX11_restore_18 ?_
      refine g_iconst X dX11_restore_19 (v := (-1 : Int32)) (by decide) ?_
      refine g_icmp_ne X (tgt := 29) dX11_restore_20 (by decide) (fun hc_5 => ?_) (fun hc_5 => ?_)
      · have h := iff_ hc_5 h
        refine g_aload_n X dX11_restore_29 rfl 0 rfl ?_
        refine g_get X (AD := A) mm0 (mE_0 cy A σ) hin11 rfl 5 (by decide) lk1 (fun _ h9 => h9) rfl dX11_restore_30 ?_
        refine g_iload_n X dX11_restore_33 rfl 1 rfl ?_
        obtain ⟨hg_6, h⟩ := grd_some h
        refine g_iald X (AD := A) mm6 (mE_6 cy A σ) 0 rfl hg_6 dX11_restore_34 ?_
        refine g_aload_n X dX11_restore_35 rfl 0 rfl ?_
        refine g_get X (AD := A) mm0 (mE_0 cy A σ) hin11 rfl 6 (by decide) lk0 (fun _ h9 => h9) rfl dX11_restore_36 ?_
        refine g_iload_n X dX11_restore_39 rfl 1 rfl ?_
        obtain ⟨hg_7, h⟩ := grd_some h
        refine g_iald X (AD := A) mm7 (mE_7 cy A σ) 0 rfl hg_7 dX11_restore_40 ?_
        obtain ⟨r_9, hf_8, h⟩ := bnd_some h
        refine g_callSI (AD := A) (As := [.int (gr σ 6 a1.toNatClampNeg), .int (gr σ 7 a1.toNatClampNeg)]) X (ZC_ok _ _ _ _ _) (m_X11_more hf_8) (va_cwS 2 X.1.2.2.2.2 gX11_restore_X11_more rfl rfl rfl (by decide +kernel) ⟨Nat.le_of_ble_eq_true rfl, Nat.le_of_ble_eq_true rfl⟩) rfl rfl (Nat.le_of_ble_eq_true rfl) ⟨by decide, by decide⟩ dX11_restore_41 ?_
        refine g_aload_n X dX11_restore_44 rfl 0 rfl ?_
        refine g_get X (AD := A) mm0 (mE_0 cy A σ) hin11 rfl 5 (by decide) lk1 (fun _ h9 => h9) rfl dX11_restore_45 ?_
        refine g_iload_n X dX11_restore_48 rfl 1 rfl ?_
        obtain ⟨hg_10, h⟩ := grd_some h
        refine g_iald X (AD := A) mm6 (mE_6 cy A σ) 0 rfl hg_10 dX11_restore_49 ?_
        refine g_aload_n X dX11_restore_50 rfl 0 rfl ?_
        refine g_get X (AD := A) mm0 (mE_0 cy A σ) hin11 rfl 6 (by decide) lk0 (fun _ h9 => h9) rfl dX11_restore_51 ?_
        refine g_iload_n X dX11_restore_54 rfl 1 rfl ?_
        obtain ⟨hg_11, h⟩ := grd_some h
        refine g_iald X (AD := A) mm7 (mE_7 cy A σ) 0 rfl hg_11 dX11_restore_55 ?_
        obtain ⟨r_13, hf_12, h⟩ := bnd_some h
        refine g_callSI (AD := A) (As := [.int (gr σ 6 a1.toNatClampNeg), .int (gr σ 7 a1.toNatClampNeg)]) X (ZC_ok _ _ _ _ _) (m_X11_less hf_12) (va_cwS 2 X.1.2.2.2.2 gX11_restore_X11_less rfl rfl rfl (by decide +kernel) ⟨Nat.le_of_ble_eq_true rfl, Nat.le_of_ble_eq_true rfl⟩) rfl rfl (Nat.le_of_ble_eq_true rfl) ⟨by decide, by decide⟩ dX11_restore_56 ?_
        refine g_isub X dX11_restore_59 ?_
        refine g_istore_n X dX11_restore_60 rfl (by decide) (lv' := [(2, .int (r_9 - r_13)), (0, .ref (A 0)), (1, .int a1)]) rfl ?_
        refine g_iconst X dX11_restore_61 (v := (0 : Int32)) (by decide) ?_
        refine g_istore_n X dX11_restore_62 rfl (by decide) (lv' := [(3, .int (0 : Int32)), (2, .int (r_9 - r_13)), (0, .ref (A 0)), (1, .int a1)]) rfl ?_
        have L_22 : ∀ (c_14 : Int32) (σ_17 : St) (n_18 : Nat) (v_15 : Int32) (v_16 : Int32) (o_23 : Int32), f_X11_restore_L63 c_14 σ_17 n_18 v_15 v_16 = some (o_23) → gG p l e ({ frames := 2, cells := 0, slots := 0, locals := 42 } : Room) s m args below meth c D (cyT cy) B 4 (eI D (cyT cy) (mW cy A X9) B below args s r σ') (mW cy A X9 σ_17) 0 0 123 [(0, .ref (A 0)), (1, .int c_14), (2, .int o_23)] [] → gG p l e ({ frames := 2, cells := 0, slots := 0, locals := 42 } : Room) s m args below meth c D (cyT cy) B 4 (eI D (cyT cy) (mW cy A X9) B below args s r σ') (mW cy A X9 σ_17) 0 0 63 [(0, .ref (A 0)), (1, .int c_14), (2, .int v_15), (3, .int v_16)] [] := by
          intro c_14 σ_17 n_18
          induction n_18 with
          | zero =>
            intro v_15 v_16 o_23 h K_20
            rw [f_X11_restore_L63] at h
            cases h
          | succ n_18 ih_19 =>
            intro v_15 v_16 o_23 h K_20
            rw [f_X11_restore_L63] at h
            refine g_iload_n X dX11_restore_63 rfl 3 rfl ?_
            refine g_aload_n X dX11_restore_64 rfl 0 rfl ?_
            refine g_get X (AD := A) mm0 (mE_0 cy A σ_17) hin11 rfl 5 (by decide) lk1 (fun _ h9 => h9) rfl dX11_restore_65 ?_
            refine g_iload_n X dX11_restore_68 rfl 1 rfl ?_
            obtain ⟨hg_24, h⟩ := grd_some h
            refine g_iald X (AD := A) mm6 (mE_6 cy A σ_17) 0 rfl hg_24 dX11_restore_69 ?_
            refine g_aload_n X dX11_restore_70 rfl 0 rfl ?_
            refine g_get X (AD := A) mm0 (mE_0 cy A σ_17) hin11 rfl 6 (by decide) lk0 (fun _ h9 => h9) rfl dX11_restore_71 ?_
            refine g_iload_n X dX11_restore_74 rfl 1 rfl ?_
            obtain ⟨hg_25, h⟩ := grd_some h
            refine g_iald X (AD := A) mm7 (mE_7 cy A σ_17) 0 rfl hg_25 dX11_restore_75 ?_
            obtain ⟨r_27, hf_26, h⟩ := bnd_some h
            refine g_callSI (AD := A) (As := [.int (gr σ_17 6 c_14.toNatClampNeg), .int (gr σ_17 7 c_14.toNatClampNeg)]) X (ZC_ok _ _ _ _ _) (m_X11_less hf_26) (va_cwS 2 X.1.2.2.2.2 gX11_restore_X11_less rfl rfl rfl (by decide +kernel) ⟨Nat.le_of_ble_eq_true rfl, Nat.le_of_ble_eq_true rfl⟩) rfl rfl (Nat.le_of_ble_eq_true rfl) ⟨by decide, by decide⟩ dX11_restore_76 ?_
            refine g_icmp_ge X (tgt := 123) dX11_restore_79 (by decide) (fun hc_28 => ?_) (fun hc_28 => ?_)
            · have h := ift hc_28 h
              cases h
              exact g_sub [0, 1, 2] rfl K_20
            · have h := iff_ hc_28 h
              refine g_iload_n X dX11_restore_82 rfl 2 rfl ?_
              refine g_aload_n X dX11_restore_83 rfl 0 rfl ?_
              refine g_get X (AD := A) mm0 (mE_0 cy A σ_17) hin11 rfl 3 (by decide) lk2 (fun _ h9 => h9) rfl dX11_restore_84 ?_
              refine g_sipush X dX11_restore_87 (v := (800 : Int32)) (by decide) ?_
              refine g_iload_n X dX11_restore_90 rfl 1 rfl ?_
              refine g_imul X dX11_restore_91 ?_
              refine g_iload_n X dX11_restore_92 rfl 3 rfl ?_
              refine g_iadd X dX11_restore_93 ?_
              obtain ⟨hg_29, h⟩ := grd_some h
              refine g_iald X (AD := A) mm4 (mE_4 cy A σ_17) 0 rfl hg_29 dX11_restore_94 ?_
              refine g_aload_n X dX11_restore_95 rfl 0 rfl ?_
              refine g_get X (AD := A) mm0 (mE_0 cy A σ_17) hin11 rfl 4 (by decide) lk3 (fun _ h9 => h9) rfl dX11_restore_96 ?_
              refine g_sipush X dX11_restore_99 (v := (800 : Int32)) (by decide) ?_
              refine g_iload_n X dX11_restore_102 rfl 1 rfl ?_
              refine g_imul X dX11_restore_103 ?_
              refine g_iload_n X dX11_restore_104 rfl 3 rfl ?_
              refine g_iadd X dX11_restore_105 ?_
              obtain ⟨hg_30, h⟩ := grd_some h
              refine g_iald X (AD := A) mm5 (mE_5 cy A σ_17) 0 rfl hg_30 dX11_restore_106 ?_
              obtain ⟨v_32, hj_34, h⟩ := bnd_some h
              have K_33 : gG p l e ({ frames := 2, cells := 0, slots := 0, locals := 42 } : Room) s m args below meth c D (cyT cy) B 4 (eI D (cyT cy) (mW cy A X9) B below args s r σ') (mW cy A X9 σ_17) 0 0 115 [(0, .ref (A 0)), (1, .int c_14), (3, .int v_16)] [.int v_32, .int v_15] := by
                refine g_iadd X dX11_restore_115 ?_
                refine g_istore_n X dX11_restore_116 rfl (by decide) (lv' := [(2, .int (v_15 + v_32)), (0, .ref (A 0)), (1, .int c_14), (3, .int v_16)]) rfl ?_
                refine g_iinc X dX11_restore_117 3 rfl (v := v_16 + (1 : Int32)) rfl (by decide) (lv' := [(3, .int (v_16 + (1 : Int32))), (2, .int (v_15 + v_32)), (0, .ref (A 0)), (1, .int c_14)]) rfl ?_
                refine g_goto X (tgt := 63) dX11_restore_120 (by decide) ?_
                exact g_sub [2, 3, 1, 0] rfl (ih_19 _ _ _ h K_20)
              have h := hj_34
              clear hj_34
              refine g_icmp_ne X (tgt := 114) dX11_restore_107 (by decide) (fun hc_31 => ?_) (fun hc_31 => ?_)
              · have h := iff_ hc_31 h
                refine g_iconst X dX11_restore_114 (v := (1 : Int32)) (by decide) ?_
                cases h
                exact g_sub [0, 1, 3] rfl K_33
              · have h := ift hc_31 h
                refine g_iconst X dX11_restore_110 (v := (0 : Int32)) (by decide) ?_
                refine g_goto X (tgt := 115) dX11_restore_111 (by decide) ?_
                cases h
                exact g_sub [0, 1, 3] rfl K_33
        obtain ⟨o_23, hl_35, h⟩ := bnd_some h
        refine g_sub [2, 3, 1, 0] rfl (L_22 a1 σ FU (r_9 - r_13) (0 : Int32) o_23 hl_35 ?_)
        refine g_aload_n X dX11_restore_123 rfl 0 rfl ?_
        refine g_get X (AD := A) mm0 (mE_0 cy A σ) hin11 rfl 5 (by decide) lk1 (fun _ h9 => h9) rfl dX11_restore_124 ?_
        refine g_iload_n X dX11_restore_127 rfl 1 rfl ?_
        refine g_aload_n X dX11_restore_128 rfl 0 rfl ?_
        refine g_get X (AD := A) mm0 (mE_0 cy A σ) hin11 rfl 6 (by decide) lk0 (fun _ h9 => h9) rfl dX11_restore_129 ?_
        refine g_iload_n X dX11_restore_132 rfl 1 rfl ?_
        obtain ⟨hg_36, h⟩ := grd_some h
        refine g_iald X (AD := A) mm7 (mE_7 cy A σ) 0 rfl hg_36 dX11_restore_133 ?_
        obtain ⟨hg_37, h⟩ := grd_some h
        refine g_iast X (AD := A) (σ' := sr σ 6 (upd (gr σ 6) a1.toNatClampNeg (gr σ 7 a1.toNatClampNeg))) mm6 (mE_6 cy A σ) 0 rfl hg_37 (sm_a6 cy A σ (upd (gr σ 6) a1.toNatClampNeg (gr σ 7 a1.toNatClampNeg))) dX11_restore_134 ?_
        obtain ⟨σ_38, e_39, h⟩ := bnd_some h
        have e_39 := Option.some.inj e_39
        rw [e_39]
        refine g_iconst X dX11_restore_135 (v := (0 : Int32)) (by decide) ?_
        refine g_istore_n X dX11_restore_136 rfl (by decide) (lv' := [(3, .int (0 : Int32)), (0, .ref (A 0)), (1, .int a1), (2, .int o_23)]) rfl ?_
        have L_48 : ∀ (c_40 : Int32) (c_41 : Int32) (n_44 : Nat) (v_42 : Int32) (σ_43 : St) (σ_49 : St), f_X11_restore_L137 c_40 n_44 v_42 σ_43 = some (σ_49) → gG p l e ({ frames := 2, cells := 0, slots := 0, locals := 42 } : Room) s m args below meth c D (cyT cy) B 4 (eI D (cyT cy) (mW cy A X9) B below args s r σ') (mW cy A X9 σ_49) 0 0 177 [(0, .ref (A 0)), (2, .int c_41)] [] → gG p l e ({ frames := 2, cells := 0, slots := 0, locals := 42 } : Room) s m args below meth c D (cyT cy) B 4 (eI D (cyT cy) (mW cy A X9) B below args s r σ') (mW cy A X9 σ_43) 0 0 137 [(0, .ref (A 0)), (1, .int c_40), (2, .int c_41), (3, .int v_42)] [] := by
          intro c_40 c_41 n_44
          induction n_44 with
          | zero =>
            intro v_42 σ_43 σ_49 h K_46
            rw [f_X11_restore_L137] at h
            cases h
          | succ n_44 ih_45 =>
            intro v_42 σ_43 σ_49 h K_46
            rw [f_X11_restore_L137] at h
            refine g_iload_n X dX11_restore_137 rfl 3 rfl ?_
            refine g_aload_n X dX11_restore_138 rfl 0 rfl ?_
            refine g_get X (AD := A) mm0 (mE_0 cy A σ_43) hin11 rfl 5 (by decide) lk1 (fun _ h9 => h9) rfl dX11_restore_139 ?_
            refine g_iload_n X dX11_restore_142 rfl 1 rfl ?_
            obtain ⟨hg_50, h⟩ := grd_some h
            refine g_iald X (AD := A) mm6 (mE_6 cy A σ_43) 0 rfl hg_50 dX11_restore_143 ?_
            refine g_icmp_ge X (tgt := 177) dX11_restore_144 (by decide) (fun hc_51 => ?_) (fun hc_51 => ?_)
            · have h := ift hc_51 h
              cases h
              exact g_sub [0, 2] rfl K_46
            · have h := iff_ hc_51 h
              refine g_aload_n X dX11_restore_147 rfl 0 rfl ?_
              refine g_get X (AD := A) mm0 (mE_0 cy A σ_43) hin11 rfl 3 (by decide) lk2 (fun _ h9 => h9) rfl dX11_restore_148 ?_
              refine g_sipush X dX11_restore_151 (v := (800 : Int32)) (by decide) ?_
              refine g_iload_n X dX11_restore_154 rfl 1 rfl ?_
              refine g_imul X dX11_restore_155 ?_
              refine g_iload_n X dX11_restore_156 rfl 3 rfl ?_
              refine g_iadd X dX11_restore_157 ?_
              refine g_aload_n X dX11_restore_158 rfl 0 rfl ?_
              refine g_get X (AD := A) mm0 (mE_0 cy A σ_43) hin11 rfl 4 (by decide) lk3 (fun _ h9 => h9) rfl dX11_restore_159 ?_
              refine g_sipush X dX11_restore_162 (v := (800 : Int32)) (by decide) ?_
              refine g_iload_n X dX11_restore_165 rfl 1 rfl ?_
              refine g_imul X dX11_restore_166 ?_
              refine g_iload_n X dX11_restore_167 rfl 3 rfl ?_
              refine g_iadd X dX11_restore_168 ?_
              obtain ⟨hg_52, h⟩ := grd_some h
              refine g_iald X (AD := A) mm5 (mE_5 cy A σ_43) 0 rfl hg_52 dX11_restore_169 ?_
              obtain ⟨hg_53, h⟩ := grd_some h
              refine g_iast X (AD := A) (σ' := sr σ_43 4 (upd (gr σ_43 4) (((800 : Int32) * c_40) + v_42).toNatClampNeg (gr σ_43 5 (((800 : Int32) * c_40) + v_42).toNatClampNeg))) mm4 (mE_4 cy A σ_43) 0 rfl hg_53 (sm_a4 cy A σ_43 (upd (gr σ_43 4) (((800 : Int32) * c_40) + v_42).toNatClampNeg (gr σ_43 5 (((800 : Int32) * c_40) + v_42).toNatClampNeg))) dX11_restore_170 ?_
              obtain ⟨σ_54, e_55, h⟩ := bnd_some h
              have e_55 := Option.some.inj e_55
              rw [e_55]
              refine g_iinc X dX11_restore_171 3 rfl (v := v_42 + (1 : Int32)) rfl (by decide) (lv' := [(3, .int (v_42 + (1 : Int32))), (0, .ref (A 0)), (1, .int c_40), (2, .int c_41)]) rfl ?_
              refine g_goto X (tgt := 137) dX11_restore_174 (by decide) ?_
              exact g_sub [1, 2, 3, 0] rfl (ih_45 _ _ _ h K_46)
        obtain ⟨σ_49, hl_56, h⟩ := bnd_some h
        refine g_sub [1, 2, 3, 0] rfl (L_48 a1 o_23 FU (0 : Int32) σ_38 σ_49 hl_56 ?_)
        refine g_aload_n X dX11_restore_177 rfl 0 rfl ?_
        refine g_iload_n X dX11_restore_178 rfl 1 rfl ?_
        obtain ⟨r_58, σ_59, hf_57, h⟩ := bnd2_some h
        refine g_callVI (AD := A) (As := [.int o_23]) X (ZC_ok _ _ _ _ _) (m_X11_told hf_57) (cwV 1 X.1.2.2.2.2 gX11_restore_X11_told rfl rfl rfl (by decide +kernel) ⟨Nat.le_of_ble_eq_true rfl, Nat.le_of_ble_eq_true rfl⟩) rfl mm0 (mE_0 cy A σ_49) rfl rfl (Nat.le_of_ble_eq_true rfl) ⟨by decide, by decide⟩ dX11_restore_179 ?_
        cases h
        exact g_iret (Wf := mW cy A X9) X ⟨rfl, rfl⟩ dX11_restore_182
      · have h := ift hc_5 h
        refine g_aload_n X dX11_restore_23 rfl 0 rfl ?_
        refine g_iconst X dX11_restore_24 (v := (2 : Int32)) (by decide) ?_
        obtain ⟨r_61, σ_62, hf_60, h⟩ := bnd2_some h
        refine g_callVI (AD := A) (As := [.int (2 : Int32)]) X (ZC_ok _ _ _ _ _) (m_X11_refuse hf_60) (cwV 1 X.1.2.2.2.2 gX11_restore_X11_refuse rfl rfl rfl (by decide +kernel) ⟨Nat.le_of_ble_eq_true rfl, Nat.le_of_ble_eq_true rfl⟩) rfl mm0 (mE_0 cy A σ) rfl rfl (Nat.le_of_ble_eq_true rfl) ⟨by decide, by decide⟩ dX11_restore_25 ?_
        cases h
        exact g_iret (Wf := mW cy A X9) X ⟨rfl, rfl⟩ dX11_restore_28
    · have h := ift hc_3 h
      refine g_aload_n X dX11_restore_7 rfl 0 rfl ?_
      refine g_iconst X dX11_restore_8 (v := (1 : Int32)) (by decide) ?_
      obtain ⟨r_64, σ_65, hf_63, h⟩ := bnd2_some h
      refine g_callVI (AD := A) (As := [.int (1 : Int32)]) X (ZC_ok _ _ _ _ _) (m_X11_refuse hf_63) (cwV 1 X.1.2.2.2.2 gX11_restore_X11_refuse rfl rfl rfl (by decide +kernel) ⟨Nat.le_of_ble_eq_true rfl, Nat.le_of_ble_eq_true rfl⟩) rfl mm0 (mE_0 cy A σ) rfl rfl (Nat.le_of_ble_eq_true rfl) ⟨by decide, by decide⟩ dX11_restore_9 ?_
      cases h
      exact g_iret (Wf := mW cy A X9) X ⟨rfl, rfl⟩ dX11_restore_12
  exact K0
set_option maxHeartbeats 8000000 in
set_option maxRecDepth 100000 in
theorem m_X11_firstAt {σ : St} {a1 : Int32} {a2 : Int32} {r : Int32} (h : f_X11_firstAt a1 a2 σ = some r) : mI (ZC aK aO aS aV aT) D (cyT cy) l yX11_firstAt wsX11_firstAt ({ frames := 0, cells := 0, slots := 0, locals := 0 } : Room) (mW cy A X9) [.ref (A 0), .int a1, .int a2] σ r σ := by
  unfold f_X11_firstAt at h
  refine mI_of (cc := cX11_firstAt) (maxL := 3) (ret := (some .int)) (by decide) rfl (Nat.le_of_ble_eq_true rfl) (fun p e s m args below meth c B X => ?_)
  have hin11 : ∀ w ∈ wsX110, w ∈ wsX11_firstAt := by decide +kernel
  have lk0 : Cond.fieldLink RX11 7 "CardcabinetModel" "firsts" "[I" ∈ wsX11_firstAt := by decide +kernel
  have lk1 : Cond.fieldLink RX11 16 "CardcabinetModel" "cards" "[I" ∈ wsX11_firstAt := by decide +kernel
  have K0 : gG p l e ({ frames := 0, cells := 0, slots := 0, locals := 0 } : Room) s m args below meth c D (cyT cy) B 3 (eI D (cyT cy) (mW cy A X9) B below args s r σ) (mW cy A X9 σ) 0 0 0 [(0, .ref (A 0)), (1, .int a1), (2, .int a2)] [] := by
    refine g_aload_n X dX11_firstAt_0 rfl 0 rfl ?_
    refine g_get X (AD := A) mm0 (mE_0 cy A σ) hin11 rfl 0 (by decide) lk0 (fun _ h9 => h9) rfl dX11_firstAt_1 ?_
    refine g_aload_n X dX11_firstAt_4 rfl 0 rfl ?_
    refine g_get X (AD := A) mm0 (mE_0 cy A σ) hin11 rfl 3 (by decide) lk1 (fun _ h9 => h9) rfl dX11_firstAt_5 ?_
    refine g_sipush X dX11_firstAt_8 (v := (800 : Int32)) (by decide) ?_
    refine g_iload_n X dX11_firstAt_11 rfl 1 rfl ?_
    refine g_imul X dX11_firstAt_12 ?_
    refine g_iload_n X dX11_firstAt_13 rfl 2 rfl ?_
    refine g_iadd X dX11_firstAt_14 ?_
    obtain ⟨hg_1, h⟩ := grd_some h
    refine g_iald X (AD := A) mm4 (mE_4 cy A σ) 0 rfl hg_1 dX11_firstAt_15 ?_
    obtain ⟨hg_2, h⟩ := grd_some h
    refine g_iald X (AD := A) mm1 (mE_1 cy A σ) 0 rfl hg_2 dX11_firstAt_16 ?_
    cases h
    exact g_iret (Wf := mW cy A X9) X ⟨rfl, rfl⟩ dX11_firstAt_17
  exact K0
end MV
