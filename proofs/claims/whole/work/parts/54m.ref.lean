section MV
variable {D : va_G} {cy : Nat → ClassId} {A aK aO aS aV aT : Nat → Nat} {l : Launch} {X9 : va_W}
set_option maxHeartbeats 8000000 in
set_option maxRecDepth 100000 in
theorem m_X11_put {σ : St} {a1 : Int32} {a2 : Int32} {a3 : Int32} {a4 : Int32} {r : Int32} {σ' : St} (h : f_X11_put a1 a2 a3 a4 σ = some (r, σ')) : mI (ZC aK aO aS aV aT) D (cyT cy) l yX11_put wsX11_put ({ frames := 2, cells := 0, slots := 0, locals := 42 } : Room) (mW cy A X9) [.ref (A 0), .int a1, .int a2, .int a3, .int a4] σ r σ' := by
  unfold f_X11_put at h
  refine mI_of (cc := cX11_put) (maxL := 6) (ret := (some .int)) (by decide) rfl (Nat.le_of_ble_eq_true rfl) (fun p e s m args below meth c B X => ?_)
  have hin11 : ∀ w ∈ wsX110, w ∈ wsX11_put := by decide +kernel
  have lk0 : Cond.fieldLink RX11 22 "CardcabinetModel" "many" "[I" ∈ wsX11_put := by decide +kernel
  have lk1 : Cond.fieldLink RX11 140 "CardcabinetModel" "made" "I" ∈ wsX11_put := by decide +kernel
  have lk2 : Cond.fieldLink RX11 16 "CardcabinetModel" "cards" "[I" ∈ wsX11_put := by decide +kernel
  have K0 : gG p l e ({ frames := 2, cells := 0, slots := 0, locals := 42 } : Room) s m args below meth c D (cyT cy) B 6 (eI D (cyT cy) (mW cy A X9) B below args s r σ') (mW cy A X9 σ) 0 0 0 [(0, .ref (A 0)), (1, .int a1), (2, .int a2), (3, .int a3), (4, .int a4)] [] := by
    refine g_iload_n X dX11_put_0 rfl 1 rfl ?_
    obtain ⟨r_2, hf_1, h⟩ := bnd_some h
    refine g_callSI (AD := A) (As := [.int a1]) X (ZC_ok _ _ _ _ _) (m_X11_isRow hf_1) (va_cwS 1 X.1.2.2.2.2 gX11_put_X11_isRow rfl rfl rfl (by decide +kernel) ⟨Nat.le_of_ble_eq_true rfl, Nat.le_of_ble_eq_true rfl⟩) rfl rfl (Nat.le_of_ble_eq_true rfl) ⟨by decide, by decide⟩ dX11_put_1 ?_
    refine g_if_eq X (tgt := 21) dX11_put_4 (by decide) (fun hc_3 => ?_) (fun hc_3 => ?_)
    · have h := ift hc_3 h
      refine g_aload_n X dX11_put_21 rfl 0 rfl ?_
      refine g_iconst X dX11_put_22 (v := (1 : Int32)) (by decide) ?_
      obtain ⟨r_5, σ_6, hf_4, h⟩ := bnd2_some h
      refine g_callVI (AD := A) (As := [.int (1 : Int32)]) X (ZC_ok _ _ _ _ _) (m_X11_refuse hf_4) (cwV 1 X.1.2.2.2.2 gX11_put_X11_refuse rfl rfl rfl (by decide +kernel) ⟨Nat.le_of_ble_eq_true rfl, Nat.le_of_ble_eq_true rfl⟩) rfl mm0 (mE_0 cy A σ) rfl rfl (Nat.le_of_ble_eq_true rfl) ⟨by decide, by decide⟩ dX11_put_23 ?_
      cases h
      exact g_iret (Wf := mW cy A X9) X ⟨rfl, rfl⟩ dX11_put_26
    · have h := iff_ hc_3 h
      refine g_iload_n X dX11_put_7 rfl 2 rfl ?_
      refine g_iconst X dX11_put_8 (v := (0 : Int32)) (by decide) ?_
      refine g_aload_n X dX11_put_9 rfl 0 rfl ?_
      refine g_get X (AD := A) mm0 (mE_0 cy A σ) hin11 rfl 5 (by decide) lk0 (fun _ h9 => h9) rfl dX11_put_10 ?_
      refine g_iload_n X dX11_put_13 rfl 1 rfl ?_
      obtain ⟨hg_7, h⟩ := grd_some h
      refine g_iald X (AD := A) mm6 (mE_6 cy A σ) 0 rfl hg_7 dX11_put_14 ?_
      obtain ⟨r_9, hf_8, h⟩ := bnd_some h
      refine g_callSI (AD := A) (As := [.int a2, .int (0 : Int32), .int (gr σ 6 a1.toNatClampNeg)]) X (ZC_ok _ _ _ _ _) (m_X11_in hf_8) (va_cwS 3 X.1.2.2.2.2 gX11_put_X11_in rfl rfl rfl (by decide +kernel) ⟨Nat.le_of_ble_eq_true rfl, Nat.le_of_ble_eq_true rfl⟩) rfl rfl (Nat.le_of_ble_eq_true rfl) ⟨by decide, by decide⟩ dX11_put_15 ?_
      refine g_if_ne X (tgt := 27) dX11_put_18 (by decide) (fun hc_10 => ?_) (fun hc_10 => ?_)
      · have h := iff_ hc_10 h
        refine g_aload_n X dX11_put_27 rfl 0 rfl ?_
        refine g_get X (AD := A) mm0 (mE_0 cy A σ) hin11 rfl 5 (by decide) lk0 (fun _ h9 => h9) rfl dX11_put_28 ?_
        refine g_iload_n X dX11_put_31 rfl 1 rfl ?_
        obtain ⟨hg_11, h⟩ := grd_some h
        refine g_iald X (AD := A) mm6 (mE_6 cy A σ) 0 rfl hg_11 dX11_put_32 ?_
        refine g_sipush X dX11_put_33 (v := (800 : Int32)) (by decide) ?_
        refine g_icmp_eq X (tgt := 49) dX11_put_36 (by decide) (fun hc_12 => ?_) (fun hc_12 => ?_)
        · have h := ift hc_12 h
          refine g_aload_n X dX11_put_49 rfl 0 rfl ?_
          refine g_iconst X dX11_put_50 (v := (2 : Int32)) (by decide) ?_
          obtain ⟨r_14, σ_15, hf_13, h⟩ := bnd2_some h
          refine g_callVI (AD := A) (As := [.int (2 : Int32)]) X (ZC_ok _ _ _ _ _) (m_X11_refuse hf_13) (cwV 1 X.1.2.2.2.2 gX11_put_X11_refuse rfl rfl rfl (by decide +kernel) ⟨Nat.le_of_ble_eq_true rfl, Nat.le_of_ble_eq_true rfl⟩) rfl mm0 (mE_0 cy A σ) rfl rfl (Nat.le_of_ble_eq_true rfl) ⟨by decide, by decide⟩ dX11_put_51 ?_
          cases h
          exact g_iret (Wf := mW cy A X9) X ⟨rfl, rfl⟩ dX11_put_54
        · have h := iff_ hc_12 h
          refine g_aload_n X dX11_put_39 rfl 0 rfl ?_
          refine g_get X (AD := A) mm0 (mE_0 cy A σ) hin11 rfl 2 (by decide) lk1 (fun _ h9 => h9) rfl dX11_put_40 ?_
          refine g_sipush X dX11_put_43 (v := (20000 : Int32)) (by decide) ?_
          refine g_icmp_ne X (tgt := 55) dX11_put_46 (by decide) (fun hc_16 => ?_) (fun hc_16 => ?_)
          · have h := iff_ hc_16 h
            refine g_aload_n X dX11_put_55 rfl 0 rfl ?_
            refine g_get X (AD := A) mm0 (mE_0 cy A σ) hin11 rfl 5 (by decide) lk0 (fun _ h9 => h9) rfl dX11_put_56 ?_
            refine g_iload_n X dX11_put_59 rfl 1 rfl ?_
            obtain ⟨hg_17, h⟩ := grd_some h
            refine g_iald X (AD := A) mm6 (mE_6 cy A σ) 0 rfl hg_17 dX11_put_60 ?_
            refine g_istore X dX11_put_61 (by decide) (lv' := [(5, .int (gr σ 6 a1.toNatClampNeg)), (0, .ref (A 0)), (1, .int a1), (2, .int a2), (3, .int a3), (4, .int a4)]) rfl ?_
            have L_28 : ∀ (c_18 : Int32) (c_19 : Int32) (c_20 : Int32) (c_21 : Int32) (n_24 : Nat) (v_22 : Int32) (σ_23 : St) (σ_29 : St), f_X11_put_L63 c_18 c_19 n_24 v_22 σ_23 = some (σ_29) → gG p l e ({ frames := 2, cells := 0, slots := 0, locals := 42 } : Room) s m args below meth c D (cyT cy) B 6 (eI D (cyT cy) (mW cy A X9) B below args s r σ') (mW cy A X9 σ_29) 0 0 103 [(0, .ref (A 0)), (1, .int c_18), (2, .int c_19), (3, .int c_20), (4, .int c_21)] [] → gG p l e ({ frames := 2, cells := 0, slots := 0, locals := 42 } : Room) s m args below meth c D (cyT cy) B 6 (eI D (cyT cy) (mW cy A X9) B below args s r σ') (mW cy A X9 σ_23) 0 0 63 [(0, .ref (A 0)), (1, .int c_18), (2, .int c_19), (3, .int c_20), (4, .int c_21), (5, .int v_22)] [] := by
              intro c_18 c_19 c_20 c_21 n_24
              induction n_24 with
              | zero =>
                intro v_22 σ_23 σ_29 h K_26
                rw [f_X11_put_L63] at h
                cases h
              | succ n_24 ih_25 =>
                intro v_22 σ_23 σ_29 h K_26
                rw [f_X11_put_L63] at h
                refine g_iload X dX11_put_63 5 rfl ?_
                refine g_iload_n X dX11_put_65 rfl 2 rfl ?_
                refine g_icmp_le X (tgt := 103) dX11_put_66 (by decide) (fun hc_30 => ?_) (fun hc_30 => ?_)
                · have h := ift hc_30 h
                  cases h
                  exact g_sub [0, 1, 2, 3, 4] rfl K_26
                · have h := iff_ hc_30 h
                  refine g_aload_n X dX11_put_69 rfl 0 rfl ?_
                  refine g_get X (AD := A) mm0 (mE_0 cy A σ_23) hin11 rfl 3 (by decide) lk2 (fun _ h9 => h9) rfl dX11_put_70 ?_
                  refine g_sipush X dX11_put_73 (v := (800 : Int32)) (by decide) ?_
                  refine g_iload_n X dX11_put_76 rfl 1 rfl ?_
                  refine g_imul X dX11_put_77 ?_
                  refine g_iload X dX11_put_78 5 rfl ?_
                  refine g_iadd X dX11_put_80 ?_
                  refine g_aload_n X dX11_put_81 rfl 0 rfl ?_
                  refine g_get X (AD := A) mm0 (mE_0 cy A σ_23) hin11 rfl 3 (by decide) lk2 (fun _ h9 => h9) rfl dX11_put_82 ?_
                  refine g_sipush X dX11_put_85 (v := (800 : Int32)) (by decide) ?_
                  refine g_iload_n X dX11_put_88 rfl 1 rfl ?_
                  refine g_imul X dX11_put_89 ?_
                  refine g_iload X dX11_put_90 5 rfl ?_
                  refine g_iadd X dX11_put_92 ?_
                  refine g_iconst X dX11_put_93 (v := (1 : Int32)) (by decide) ?_
                  refine g_isub X dX11_put_94 ?_
                  obtain ⟨hg_31, h⟩ := grd_some h
                  refine g_iald X (AD := A) mm4 (mE_4 cy A σ_23) 0 rfl hg_31 dX11_put_95 ?_
                  obtain ⟨hg_32, h⟩ := grd_some h
                  refine g_iast X (AD := A) (σ' := sr σ_23 4 (upd (gr σ_23 4) (((800 : Int32) * c_18) + v_22).toNatClampNeg (gr σ_23 4 ((((800 : Int32) * c_18) + v_22) - (1 : Int32)).toNatClampNeg))) mm4 (mE_4 cy A σ_23) 0 rfl hg_32 (sm_a4 cy A σ_23 (upd (gr σ_23 4) (((800 : Int32) * c_18) + v_22).toNatClampNeg (gr σ_23 4 ((((800 : Int32) * c_18) + v_22) - (1 : Int32)).toNatClampNeg))) dX11_put_96 ?_
                  obtain ⟨σ_33, e_34, h⟩ := bnd_some h
                  have e_34 := Option.some.inj e_34
                  rw [e_34]
                  refine g_iinc X dX11_put_97 5 rfl (v := v_22 + (-1 : Int32)) rfl (by decide) (lv' := [(5, .int (v_22 + (-1 : Int32))), (0, .ref (A 0)), (1, .int c_18), (2, .int c_19), (3, .int c_20), (4, .int c_21)]) rfl ?_
                  refine g_goto X (tgt := 63) dX11_put_100 (by decide) ?_
                  exact g_sub [1, 2, 3, 4, 5, 0] rfl (ih_25 _ _ _ h K_26)
            obtain ⟨σ_29, hl_35, h⟩ := bnd_some h
            refine g_sub [1, 2, 3, 4, 5, 0] rfl (L_28 a1 a2 a3 a4 FU (gr σ 6 a1.toNatClampNeg) σ σ_29 hl_35 ?_)
            refine g_aload_n X dX11_put_103 rfl 0 rfl ?_
            refine g_get X (AD := A) mm0 (mE_0 cy A σ_29) hin11 rfl 3 (by decide) lk2 (fun _ h9 => h9) rfl dX11_put_104 ?_
            refine g_sipush X dX11_put_107 (v := (800 : Int32)) (by decide) ?_
            refine g_iload_n X dX11_put_110 rfl 1 rfl ?_
            refine g_imul X dX11_put_111 ?_
            refine g_iload_n X dX11_put_112 rfl 2 rfl ?_
            refine g_iadd X dX11_put_113 ?_
            refine g_aload_n X dX11_put_114 rfl 0 rfl ?_
            refine g_iload_n X dX11_put_115 rfl 3 rfl ?_
            refine g_iload X dX11_put_116 4 rfl ?_
            obtain ⟨r_37, σ_38, hf_36, h⟩ := bnd2_some h
            refine g_callVI (AD := A) (As := [.int a3, .int a4]) X (ZC_ok _ _ _ _ _) (m_X11_makes hf_36) (cwV 2 X.1.2.2.2.2 gX11_put_X11_makes rfl rfl rfl (by decide +kernel) ⟨Nat.le_of_ble_eq_true rfl, Nat.le_of_ble_eq_true rfl⟩) rfl mm0 (mE_0 cy A σ_29) rfl rfl (Nat.le_of_ble_eq_true rfl) ⟨by decide, by decide⟩ dX11_put_118 ?_
            obtain ⟨hg_39, h⟩ := grd_some h
            refine g_iast X (AD := A) (σ' := sr σ_38 4 (upd (gr σ_38 4) (((800 : Int32) * a1) + a2).toNatClampNeg r_37)) mm4 (mE_4 cy A σ_38) 0 rfl hg_39 (sm_a4 cy A σ_38 (upd (gr σ_38 4) (((800 : Int32) * a1) + a2).toNatClampNeg r_37)) dX11_put_121 ?_
            obtain ⟨σ_40, e_41, h⟩ := bnd_some h
            have e_41 := Option.some.inj e_41
            rw [e_41]
            refine g_aload_n X dX11_put_122 rfl 0 rfl ?_
            refine g_get X (AD := A) mm0 (mE_0 cy A σ_40) hin11 rfl 5 (by decide) lk0 (fun _ h9 => h9) rfl dX11_put_123 ?_
            refine g_iload_n X dX11_put_126 rfl 1 rfl ?_
            refine g_dup2 X dX11_put_127 rfl rfl ?_
            obtain ⟨hg_42, h⟩ := grd_some h
            refine g_iald X (AD := A) mm6 (mE_6 cy A σ_40) 0 rfl hg_42 dX11_put_128 ?_
            refine g_iconst X dX11_put_129 (v := (1 : Int32)) (by decide) ?_
            refine g_iadd X dX11_put_130 ?_
            obtain ⟨hg_43, h⟩ := grd_some h
            refine g_iast X (AD := A) (σ' := sr σ_40 6 (upd (gr σ_40 6) a1.toNatClampNeg ((gr σ_40 6 a1.toNatClampNeg) + (1 : Int32)))) mm6 (mE_6 cy A σ_40) 0 rfl hg_43 (sm_a6 cy A σ_40 (upd (gr σ_40 6) a1.toNatClampNeg ((gr σ_40 6 a1.toNatClampNeg) + (1 : Int32)))) dX11_put_131 ?_
            obtain ⟨σ_44, e_45, h⟩ := bnd_some h
            have e_45 := Option.some.inj e_45
            rw [e_45]
            refine g_aload_n X dX11_put_132 rfl 0 rfl ?_
            refine g_aload_n X dX11_put_133 rfl 0 rfl ?_
            refine g_get X (AD := A) mm0 (mE_0 cy A σ_44) hin11 rfl 2 (by decide) lk1 (fun _ h9 => h9) rfl dX11_put_134 ?_
            refine g_iconst X dX11_put_137 (v := (1 : Int32)) (by decide) ?_
            refine g_isub X dX11_put_138 ?_
            obtain ⟨r_47, σ_48, hf_46, h⟩ := bnd2_some h
            refine g_callVI (AD := A) (As := [.int ((gi σ_44 2) - (1 : Int32))]) X (ZC_ok _ _ _ _ _) (m_X11_told hf_46) (cwV 1 X.1.2.2.2.2 gX11_put_X11_told rfl rfl rfl (by decide +kernel) ⟨Nat.le_of_ble_eq_true rfl, Nat.le_of_ble_eq_true rfl⟩) rfl mm0 (mE_0 cy A σ_44) rfl rfl (Nat.le_of_ble_eq_true rfl) ⟨by decide, by decide⟩ dX11_put_139 ?_
            cases h
            exact g_iret (Wf := mW cy A X9) X ⟨rfl, rfl⟩ dX11_put_142
          · have h := ift hc_16 h
            refine g_aload_n X dX11_put_49 rfl 0 rfl ?_
            refine g_iconst X dX11_put_50 (v := (2 : Int32)) (by decide) ?_
            obtain ⟨r_50, σ_51, hf_49, h⟩ := bnd2_some h
            refine g_callVI (AD := A) (As := [.int (2 : Int32)]) X (ZC_ok _ _ _ _ _) (m_X11_refuse hf_49) (cwV 1 X.1.2.2.2.2 gX11_put_X11_refuse rfl rfl rfl (by decide +kernel) ⟨Nat.le_of_ble_eq_true rfl, Nat.le_of_ble_eq_true rfl⟩) rfl mm0 (mE_0 cy A σ) rfl rfl (Nat.le_of_ble_eq_true rfl) ⟨by decide, by decide⟩ dX11_put_51 ?_
            cases h
            exact g_iret (Wf := mW cy A X9) X ⟨rfl, rfl⟩ dX11_put_54
      · have h := ift hc_10 h
        refine g_aload_n X dX11_put_21 rfl 0 rfl ?_
        refine g_iconst X dX11_put_22 (v := (1 : Int32)) (by decide) ?_
        obtain ⟨r_53, σ_54, hf_52, h⟩ := bnd2_some h
        refine g_callVI (AD := A) (As := [.int (1 : Int32)]) X (ZC_ok _ _ _ _ _) (m_X11_refuse hf_52) (cwV 1 X.1.2.2.2.2 gX11_put_X11_refuse rfl rfl rfl (by decide +kernel) ⟨Nat.le_of_ble_eq_true rfl, Nat.le_of_ble_eq_true rfl⟩) rfl mm0 (mE_0 cy A σ) rfl rfl (Nat.le_of_ble_eq_true rfl) ⟨by decide, by decide⟩ dX11_put_23 ?_
        cases h
        exact g_iret (Wf := mW cy A X9) X ⟨rfl, rfl⟩ dX11_put_26
  exact K0
set_option maxHeartbeats 8000000 in
set_option maxRecDepth 100000 in
theorem m_X11_setSeed {σ : St} {a1 : Int32} {r : Int32} {σ' : St} (h : f_X11_setSeed a1 σ = some (r, σ')) : mI (ZC aK aO aS aV aT) D (cyT cy) l yX11_setSeed wsX11_setSeed ({ frames := 1, cells := 0, slots := 0, locals := 21 } : Room) (mW cy A X9) [.ref (A 0), .int a1] σ r σ' := by
  unfold f_X11_setSeed at h
  refine mI_of (cc := cX11_setSeed) (maxL := 3) (ret := (some .int)) (by decide) rfl (Nat.le_of_ble_eq_true rfl) (fun p e s m args below meth c B X => ?_)
  have hin11 : ∀ w ∈ wsX110, w ∈ wsX11_setSeed := by decide +kernel
  have lk0 : Cond.fieldLink RX11 31 "CardcabinetModel" "seed" "I" ∈ wsX11_setSeed := by decide +kernel
  have K0 : gG p l e ({ frames := 1, cells := 0, slots := 0, locals := 21 } : Room) s m args below meth c D (cyT cy) B 3 (eI D (cyT cy) (mW cy A X9) B below args s r σ') (mW cy A X9 σ) 0 0 0 [(0, .ref (A 0)), (1, .int a1)] [] := by
    refine g_aload_n X dX11_setSeed_0 rfl 0 rfl ?_
    refine g_get X (AD := A) mm0 (mE_0 cy A σ) hin11 rfl 9 (by decide) lk0 (fun _ h9 => h9) rfl dX11_setSeed_1 ?_
    refine g_istore_n X dX11_setSeed_4 rfl (by decide) (lv' := [(2, .int (gi σ 9)), (0, .ref (A 0)), (1, .int a1)]) rfl ?_
    refine g_aload_n X dX11_setSeed_5 rfl 1 rfl ?_
    refine g_iload_n X dX11_setSeed_6 rfl 2 rfl ?_
    refine g_put X (AD := A) (ty := .int) (v := .int a1) (σ' := si σ 9 a1) mm0 (mE_0 cy A σ) hin11 rfl tyX11 tyX11_ok nmX11 9 (by decide) lk0 (fun _ h9 => h9) rfl (by decide +kernel) rfl rfl (Nat.le_of_ble_eq_true rfl) (sm_9 cy A σ a1) dX11_setSeed_7 ?_
    refine g_aload_n X dX11_setSeed_10 rfl 1 rfl ?_
    refine g_iload_n X dX11_setSeed_11 rfl 0 rfl ?_
    obtain ⟨r_2, σ_3, hf_1, h⟩ := bnd2_some h
    refine g_callVI (AD := A) (As := [.int (gi σ 9)]) X (ZC_ok _ _ _ _ _) (m_X11_told hf_1) (cwV 1 X.1.2.2.2.2 gX11_setSeed_X11_told rfl rfl rfl (by decide +kernel) ⟨Nat.le_of_ble_eq_true rfl, Nat.le_of_ble_eq_true rfl⟩) rfl mm0 (mE_0 cy A (si σ 9 a1)) rfl rfl (Nat.le_of_ble_eq_true rfl) ⟨by decide, by decide⟩ dX11_setSeed_12 ?_
    cases h
    exact g_iret (Wf := mW cy A X9) X ⟨rfl, rfl⟩ dX11_setSeed_15
  exact K0
set_option maxHeartbeats 8000000 in
set_option maxRecDepth 100000 in
theorem m_X11_goesAhead {σ : St} {a1 : Int32} {a2 : Int32} {a3 : Int32} {r : Int32} (h : f_X11_goesAhead a1 a2 a3 σ = some r) : mI (ZC aK aO aS aV aT) D (cyT cy) l yX11_goesAhead wsX11_goesAhead ({ frames := 0, cells := 0, slots := 0, locals := 0 } : Room) (mW cy A X9) [.ref (A 0), .int a1, .int a2, .int a3] σ r σ := by
  unfold f_X11_goesAhead at h
  refine mI_of (cc := cX11_goesAhead) (maxL := 4) (ret := (some .boolean)) (by decide) rfl (Nat.le_of_ble_eq_true rfl) (fun p e s m args below meth c B X => ?_)
  have hin11 : ∀ w ∈ wsX110, w ∈ wsX11_goesAhead := by decide +kernel
  have lk0 : Cond.fieldLink RX11 7 "CardcabinetModel" "firsts" "[I" ∈ wsX11_goesAhead := by decide +kernel
  have lk1 : Cond.fieldLink RX11 13 "CardcabinetModel" "seconds" "[I" ∈ wsX11_goesAhead := by decide +kernel
  have K0 : gG p l e ({ frames := 0, cells := 0, slots := 0, locals := 0 } : Room) s m args below meth c D (cyT cy) B 4 (eI D (cyT cy) (mW cy A X9) B below args s r σ) (mW cy A X9 σ) 0 0 0 [(0, .ref (A 0)), (1, .int a1), (2, .int a2), (3, .int a3)] [] := by
    refine g_iload_n X dX11_goesAhead_0 rfl 3 rfl ?_
    by_cases hc_8 : a3 = 0
    · have h := ift hc_8 h
      refine g_tabIn X (offq := 27) (tgt := 28) dX11_goesAhead_1 (by rw [hc_8]; decide) (by rw [hc_8]; decide) (by rw [hc_8]; rfl) (by decide) ?_
      refine g_aload_n X dX11_goesAhead_28 rfl 0 rfl ?_
      refine g_get X (AD := A) mm0 (mE_0 cy A σ) hin11 rfl 0 (by decide) lk0 (fun _ h9 => h9) rfl dX11_goesAhead_29 ?_
      refine g_iload_n X dX11_goesAhead_32 rfl 1 rfl ?_
      obtain ⟨hg_1, h⟩ := grd_some h
      refine g_iald X (AD := A) mm1 (mE_1 cy A σ) 0 rfl hg_1 dX11_goesAhead_33 ?_
      refine g_aload_n X dX11_goesAhead_34 rfl 0 rfl ?_
      refine g_get X (AD := A) mm0 (mE_0 cy A σ) hin11 rfl 0 (by decide) lk0 (fun _ h9 => h9) rfl dX11_goesAhead_35 ?_
      refine g_iload_n X dX11_goesAhead_38 rfl 2 rfl ?_
      obtain ⟨hg_2, h⟩ := grd_some h
      refine g_iald X (AD := A) mm1 (mE_1 cy A σ) 0 rfl hg_2 dX11_goesAhead_39 ?_
      obtain ⟨v_4, hj_7, h⟩ := bnd_some h
      have K_5 : gG p l e ({ frames := 0, cells := 0, slots := 0, locals := 0 } : Room) s m args below meth c D (cyT cy) B 4 (eI D (cyT cy) (mW cy A X9) B below args s r σ) (mW cy A X9 σ) 0 0 48 [] [.int v_4] := by
        obtain ⟨hg_6, h⟩ := grd_some h
        cases h
        exact g_zret (Wf := mW cy A X9) X (nar01 hg_6) ⟨rfl, rfl⟩ dX11_goesAhead_48
      have h := hj_7
      clear hj_7
      refine g_icmp_ge X (tgt := 47) dX11_goesAhead_40 (by decide) (fun hc_3 => ?_) (fun hc_3 => ?_)
      · have h := ift hc_3 h
        refine g_iconst X dX11_goesAhead_47 (v := (0 : Int32)) (by decide) ?_
        cases h
        exact g_sub [] rfl K_5
      · have h := iff_ hc_3 h
        refine g_iconst X dX11_goesAhead_43 (v := (1 : Int32)) (by decide) ?_
        refine g_goto X (tgt := 48) dX11_goesAhead_44 (by decide) ?_
        cases h
        exact g_sub [] rfl K_5
    have h := iff_ hc_8 h
    by_cases hc_16 : a3 = 1
    · have h := ift hc_16 h
      refine g_tabIn X (offq := 48) (tgt := 49) dX11_goesAhead_1 (by rw [hc_16]; decide) (by rw [hc_16]; decide) (by rw [hc_16]; rfl) (by decide) ?_
      refine g_aload_n X dX11_goesAhead_49 rfl 0 rfl ?_
      refine g_get X (AD := A) mm0 (mE_0 cy A σ) hin11 rfl 0 (by decide) lk0 (fun _ h9 => h9) rfl dX11_goesAhead_50 ?_
      refine g_iload_n X dX11_goesAhead_53 rfl 1 rfl ?_
      obtain ⟨hg_9, h⟩ := grd_some h
      refine g_iald X (AD := A) mm1 (mE_1 cy A σ) 0 rfl hg_9 dX11_goesAhead_54 ?_
      refine g_aload_n X dX11_goesAhead_55 rfl 0 rfl ?_
      refine g_get X (AD := A) mm0 (mE_0 cy A σ) hin11 rfl 0 (by decide) lk0 (fun _ h9 => h9) rfl dX11_goesAhead_56 ?_
      refine g_iload_n X dX11_goesAhead_59 rfl 2 rfl ?_
      obtain ⟨hg_10, h⟩ := grd_some h
      refine g_iald X (AD := A) mm1 (mE_1 cy A σ) 0 rfl hg_10 dX11_goesAhead_60 ?_
      obtain ⟨v_12, hj_15, h⟩ := bnd_some h
      have K_13 : gG p l e ({ frames := 0, cells := 0, slots := 0, locals := 0 } : Room) s m args below meth c D (cyT cy) B 4 (eI D (cyT cy) (mW cy A X9) B below args s r σ) (mW cy A X9 σ) 0 0 69 [] [.int v_12] := by
        obtain ⟨hg_14, h⟩ := grd_some h
        cases h
        exact g_zret (Wf := mW cy A X9) X (nar01 hg_14) ⟨rfl, rfl⟩ dX11_goesAhead_69
      have h := hj_15
      clear hj_15
      refine g_icmp_le X (tgt := 68) dX11_goesAhead_61 (by decide) (fun hc_11 => ?_) (fun hc_11 => ?_)
      · have h := ift hc_11 h
        refine g_iconst X dX11_goesAhead_68 (v := (0 : Int32)) (by decide) ?_
        cases h
        exact g_sub [] rfl K_13
      · have h := iff_ hc_11 h
        refine g_iconst X dX11_goesAhead_64 (v := (1 : Int32)) (by decide) ?_
        refine g_goto X (tgt := 69) dX11_goesAhead_65 (by decide) ?_
        cases h
        exact g_sub [] rfl K_13
    have h := iff_ hc_16 h
    by_cases hc_24 : a3 = 2
    · have h := ift hc_24 h
      refine g_tabIn X (offq := 69) (tgt := 70) dX11_goesAhead_1 (by rw [hc_24]; decide) (by rw [hc_24]; decide) (by rw [hc_24]; rfl) (by decide) ?_
      refine g_aload_n X dX11_goesAhead_70 rfl 0 rfl ?_
      refine g_get X (AD := A) mm0 (mE_0 cy A σ) hin11 rfl 1 (by decide) lk1 (fun _ h9 => h9) rfl dX11_goesAhead_71 ?_
      refine g_iload_n X dX11_goesAhead_74 rfl 1 rfl ?_
      obtain ⟨hg_17, h⟩ := grd_some h
      refine g_iald X (AD := A) mm2 (mE_2 cy A σ) 0 rfl hg_17 dX11_goesAhead_75 ?_
      refine g_aload_n X dX11_goesAhead_76 rfl 0 rfl ?_
      refine g_get X (AD := A) mm0 (mE_0 cy A σ) hin11 rfl 1 (by decide) lk1 (fun _ h9 => h9) rfl dX11_goesAhead_77 ?_
      refine g_iload_n X dX11_goesAhead_80 rfl 2 rfl ?_
      obtain ⟨hg_18, h⟩ := grd_some h
      refine g_iald X (AD := A) mm2 (mE_2 cy A σ) 0 rfl hg_18 dX11_goesAhead_81 ?_
      obtain ⟨v_20, hj_23, h⟩ := bnd_some h
      have K_21 : gG p l e ({ frames := 0, cells := 0, slots := 0, locals := 0 } : Room) s m args below meth c D (cyT cy) B 4 (eI D (cyT cy) (mW cy A X9) B below args s r σ) (mW cy A X9 σ) 0 0 90 [] [.int v_20] := by
        obtain ⟨hg_22, h⟩ := grd_some h
        cases h
        exact g_zret (Wf := mW cy A X9) X (nar01 hg_22) ⟨rfl, rfl⟩ dX11_goesAhead_90
      have h := hj_23
      clear hj_23
      refine g_icmp_ge X (tgt := 89) dX11_goesAhead_82 (by decide) (fun hc_19 => ?_) (fun hc_19 => ?_)
      · have h := ift hc_19 h
        refine g_iconst X dX11_goesAhead_89 (v := (0 : Int32)) (by decide) ?_
        cases h
        exact g_sub [] rfl K_21
      · have h := iff_ hc_19 h
        refine g_iconst X dX11_goesAhead_85 (v := (1 : Int32)) (by decide) ?_
        refine g_goto X (tgt := 90) dX11_goesAhead_86 (by decide) ?_
        cases h
        exact g_sub [] rfl K_21
    have h := iff_ hc_24 h
    have hn_38 : a3.toInt ≠ 0 := i32ne hc_8
    have hn_39 : a3.toInt ≠ 1 := i32ne hc_16
    have hn_40 : a3.toInt ≠ 2 := i32ne hc_24
    refine g_tabOut X (tgt := 91) dX11_goesAhead_1 (by omega) (by decide) ?_
    refine g_aload_n X dX11_goesAhead_91 rfl 0 rfl ?_
    refine g_get X (AD := A) mm0 (mE_0 cy A σ) hin11 rfl 0 (by decide) lk0 (fun _ h9 => h9) rfl dX11_goesAhead_92 ?_
    refine g_iload_n X dX11_goesAhead_95 rfl 1 rfl ?_
    obtain ⟨hg_25, h⟩ := grd_some h
    refine g_iald X (AD := A) mm1 (mE_1 cy A σ) 0 rfl hg_25 dX11_goesAhead_96 ?_
    refine g_aload_n X dX11_goesAhead_97 rfl 0 rfl ?_
    refine g_get X (AD := A) mm0 (mE_0 cy A σ) hin11 rfl 0 (by decide) lk0 (fun _ h9 => h9) rfl dX11_goesAhead_98 ?_
    refine g_iload_n X dX11_goesAhead_101 rfl 2 rfl ?_
    obtain ⟨hg_26, h⟩ := grd_some h
    refine g_iald X (AD := A) mm1 (mE_1 cy A σ) 0 rfl hg_26 dX11_goesAhead_102 ?_
    obtain ⟨v_28, hj_37, h⟩ := bnd_some h
    have K_29 : gG p l e ({ frames := 0, cells := 0, slots := 0, locals := 0 } : Room) s m args below meth c D (cyT cy) B 4 (eI D (cyT cy) (mW cy A X9) B below args s r σ) (mW cy A X9 σ) 0 0 141 [] [.int v_28] := by
      obtain ⟨hg_36, h⟩ := grd_some h
      cases h
      exact g_zret (Wf := mW cy A X9) X (nar01 hg_36) ⟨rfl, rfl⟩ dX11_goesAhead_141
    have h := hj_37
    clear hj_37
    refine g_icmp_lt X (tgt := 136) dX11_goesAhead_103 (by decide) (fun hc_27 => ?_) (fun hc_27 => ?_)
    · have h := ift hc_27 h
      refine g_iconst X dX11_goesAhead_136 (v := (1 : Int32)) (by decide) ?_
      refine g_goto X (tgt := 141) dX11_goesAhead_137 (by decide) ?_
      cases h
      exact g_sub [] rfl K_29
    · have h := iff_ hc_27 h
      refine g_aload_n X dX11_goesAhead_106 rfl 0 rfl ?_
      refine g_get X (AD := A) mm0 (mE_0 cy A σ) hin11 rfl 0 (by decide) lk0 (fun _ h9 => h9) rfl dX11_goesAhead_107 ?_
      refine g_iload_n X dX11_goesAhead_110 rfl 1 rfl ?_
      obtain ⟨hg_30, h⟩ := grd_some h
      refine g_iald X (AD := A) mm1 (mE_1 cy A σ) 0 rfl hg_30 dX11_goesAhead_111 ?_
      refine g_aload_n X dX11_goesAhead_112 rfl 0 rfl ?_
      refine g_get X (AD := A) mm0 (mE_0 cy A σ) hin11 rfl 0 (by decide) lk0 (fun _ h9 => h9) rfl dX11_goesAhead_113 ?_
      refine g_iload_n X dX11_goesAhead_116 rfl 2 rfl ?_
      obtain ⟨hg_31, h⟩ := grd_some h
      refine g_iald X (AD := A) mm1 (mE_1 cy A σ) 0 rfl hg_31 dX11_goesAhead_117 ?_
      refine g_icmp_ne X (tgt := 140) dX11_goesAhead_118 (by decide) (fun hc_32 => ?_) (fun hc_32 => ?_)
      · have h := iff_ hc_32 h
        refine g_iconst X dX11_goesAhead_140 (v := (0 : Int32)) (by decide) ?_
        cases h
        exact g_sub [] rfl K_29
      · have h := ift hc_32 h
        refine g_aload_n X dX11_goesAhead_121 rfl 0 rfl ?_
        refine g_get X (AD := A) mm0 (mE_0 cy A σ) hin11 rfl 1 (by decide) lk1 (fun _ h9 => h9) rfl dX11_goesAhead_122 ?_
        refine g_iload_n X dX11_goesAhead_125 rfl 1 rfl ?_
        obtain ⟨hg_33, h⟩ := grd_some h
        refine g_iald X (AD := A) mm2 (mE_2 cy A σ) 0 rfl hg_33 dX11_goesAhead_126 ?_
        refine g_aload_n X dX11_goesAhead_127 rfl 0 rfl ?_
        refine g_get X (AD := A) mm0 (mE_0 cy A σ) hin11 rfl 1 (by decide) lk1 (fun _ h9 => h9) rfl dX11_goesAhead_128 ?_
        refine g_iload_n X dX11_goesAhead_131 rfl 2 rfl ?_
        obtain ⟨hg_34, h⟩ := grd_some h
        refine g_iald X (AD := A) mm2 (mE_2 cy A σ) 0 rfl hg_34 dX11_goesAhead_132 ?_
        refine g_icmp_ge X (tgt := 140) dX11_goesAhead_133 (by decide) (fun hc_35 => ?_) (fun hc_35 => ?_)
        · have h := ift hc_35 h
          refine g_iconst X dX11_goesAhead_140 (v := (0 : Int32)) (by decide) ?_
          cases h
          exact g_sub [] rfl K_29
        · have h := iff_ hc_35 h
          refine g_iconst X dX11_goesAhead_136 (v := (1 : Int32)) (by decide) ?_
          refine g_goto X (tgt := 141) dX11_goesAhead_137 (by decide) ?_
          cases h
          exact g_sub [] rfl K_29
  exact K0
set_option maxHeartbeats 8000000 in
set_option maxRecDepth 100000 in
theorem m_X11_sorts {σ : St} {a1 : Int32} {a2 : Int32} {r : Int32} {σ' : St} (h : f_X11_sorts a1 a2 σ = some (r, σ')) : mI (ZC aK aO aS aV aT) D (cyT cy) l yX11_sorts wsX11_sorts ({ frames := 1, cells := 0, slots := 0, locals := 23 } : Room) (mW cy A X9) [.ref (A 0), .int a1, .int a2] σ r σ' := by
  unfold f_X11_sorts at h
  refine mI_of (cc := cX11_sorts) (maxL := 6) (ret := (some .int)) (by decide) rfl (Nat.le_of_ble_eq_true rfl) (fun p e s m args below meth c B X => ?_)
  have hin11 : ∀ w ∈ wsX110, w ∈ wsX11_sorts := by decide +kernel
  have lk0 : Cond.fieldLink RX11 38 "CardcabinetModel" "before" "[I" ∈ wsX11_sorts := by decide +kernel
  have lk1 : Cond.fieldLink RX11 35 "CardcabinetModel" "work" "[I" ∈ wsX11_sorts := by decide +kernel
  have K0 : gG p l e ({ frames := 1, cells := 0, slots := 0, locals := 23 } : Room) s m args below meth c D (cyT cy) B 6 (eI D (cyT cy) (mW cy A X9) B below args s r σ') (mW cy A X9 σ) 0 0 0 [(0, .ref (A 0)), (1, .int a1), (2, .int a2)] [] := by
    refine g_iconst X dX11_sorts_0 (v := (0 : Int32)) (by decide) ?_
    refine g_istore_n X dX11_sorts_1 rfl (by decide) (lv' := [(3, .int (0 : Int32)), (0, .ref (A 0)), (1, .int a1), (2, .int a2)]) rfl ?_
    have L_9 : ∀ (c_1 : Int32) (c_2 : Int32) (n_5 : Nat) (v_3 : Int32) (σ_4 : St) (σ_10 : St), f_X11_sorts_L2 c_1 n_5 v_3 σ_4 = some (σ_10) → gG p l e ({ frames := 1, cells := 0, slots := 0, locals := 23 } : Room) s m args below meth c D (cyT cy) B 6 (eI D (cyT cy) (mW cy A X9) B below args s r σ') (mW cy A X9 σ_10) 0 0 25 [(0, .ref (A 0)), (1, .int c_1), (2, .int c_2)] [] → gG p l e ({ frames := 1, cells := 0, slots := 0, locals := 23 } : Room) s m args below meth c D (cyT cy) B 6 (eI D (cyT cy) (mW cy A X9) B below args s r σ') (mW cy A X9 σ_4) 0 0 2 [(0, .ref (A 0)), (1, .int c_1), (2, .int c_2), (3, .int v_3)] [] := by
      intro c_1 c_2 n_5
      induction n_5 with
      | zero =>
        intro v_3 σ_4 σ_10 h K_7
        rw [f_X11_sorts_L2] at h
        cases h
      | succ n_5 ih_6 =>
        intro v_3 σ_4 σ_10 h K_7
        rw [f_X11_sorts_L2] at h
        refine g_iload_n X dX11_sorts_2 rfl 3 rfl ?_
        refine g_iload_n X dX11_sorts_3 rfl 1 rfl ?_
        refine g_icmp_ge X (tgt := 25) dX11_sorts_4 (by decide) (fun hc_11 => ?_) (fun hc_11 => ?_)
        · have h := ift hc_11 h
          cases h
          exact g_sub [0, 1, 2] rfl K_7
        · have h := iff_ hc_11 h
          refine g_aload_n X dX11_sorts_7 rfl 0 rfl ?_
          refine g_get X (AD := A) mm0 (mE_0 cy A σ_4) hin11 rfl 12 (by decide) lk0 (fun _ h9 => h9) rfl dX11_sorts_8 ?_
          refine g_iload_n X dX11_sorts_11 rfl 3 rfl ?_
          refine g_aload_n X dX11_sorts_12 rfl 0 rfl ?_
          refine g_get X (AD := A) mm0 (mE_0 cy A σ_4) hin11 rfl 11 (by decide) lk1 (fun _ h9 => h9) rfl dX11_sorts_13 ?_
          refine g_iload_n X dX11_sorts_16 rfl 3 rfl ?_
          obtain ⟨hg_12, h⟩ := grd_some h
          refine g_iald X (AD := A) mm12 (mE_12 cy A σ_4) 0 rfl hg_12 dX11_sorts_17 ?_
          obtain ⟨hg_13, h⟩ := grd_some h
          refine g_iast X (AD := A) (σ' := sr σ_4 13 (upd (gr σ_4 13) v_3.toNatClampNeg (gr σ_4 12 v_3.toNatClampNeg))) mm13 (mE_13 cy A σ_4) 0 rfl hg_13 (sm_a13 cy A σ_4 (upd (gr σ_4 13) v_3.toNatClampNeg (gr σ_4 12 v_3.toNatClampNeg))) dX11_sorts_18 ?_
          obtain ⟨σ_14, e_15, h⟩ := bnd_some h
          have e_15 := Option.some.inj e_15
          rw [e_15]
          refine g_iinc X dX11_sorts_19 3 rfl (v := v_3 + (1 : Int32)) rfl (by decide) (lv' := [(3, .int (v_3 + (1 : Int32))), (0, .ref (A 0)), (1, .int c_1), (2, .int c_2)]) rfl ?_
          refine g_goto X (tgt := 2) dX11_sorts_22 (by decide) ?_
          exact g_sub [1, 2, 3, 0] rfl (ih_6 _ _ _ h K_7)
    obtain ⟨σ_10, hl_16, h⟩ := bnd_some h
    refine g_sub [1, 2, 3, 0] rfl (L_9 a1 a2 FU (0 : Int32) σ σ_10 hl_16 ?_)
    refine g_iconst X dX11_sorts_25 (v := (1 : Int32)) (by decide) ?_
    refine g_istore_n X dX11_sorts_26 rfl (by decide) (lv' := [(3, .int (1 : Int32)), (0, .ref (A 0)), (1, .int a1), (2, .int a2)]) rfl ?_
    have L_25 : ∀ (c_17 : Int32) (c_18 : Int32) (n_21 : Nat) (v_19 : Int32) (σ_20 : St) (σ_26 : St), f_X11_sorts_L27 c_17 c_18 n_21 v_19 σ_20 = some (σ_26) → gG p l e ({ frames := 1, cells := 0, slots := 0, locals := 23 } : Room) s m args below meth c D (cyT cy) B 6 (eI D (cyT cy) (mW cy A X9) B below args s r σ') (mW cy A X9 σ_26) 0 0 104 [(0, .ref (A 0)), (1, .int c_17)] [] → gG p l e ({ frames := 1, cells := 0, slots := 0, locals := 23 } : Room) s m args below meth c D (cyT cy) B 6 (eI D (cyT cy) (mW cy A X9) B below args s r σ') (mW cy A X9 σ_20) 0 0 27 [(0, .ref (A 0)), (1, .int c_17), (2, .int c_18), (3, .int v_19)] [] := by
      intro c_17 c_18 n_21
      induction n_21 with
      | zero =>
        intro v_19 σ_20 σ_26 h K_23
        rw [f_X11_sorts_L27] at h
        cases h
      | succ n_21 ih_22 =>
        intro v_19 σ_20 σ_26 h K_23
        rw [f_X11_sorts_L27] at h
        refine g_iload_n X dX11_sorts_27 rfl 3 rfl ?_
        refine g_iload_n X dX11_sorts_28 rfl 1 rfl ?_
        refine g_icmp_ge X (tgt := 104) dX11_sorts_29 (by decide) (fun hc_27 => ?_) (fun hc_27 => ?_)
        · have h := ift hc_27 h
          cases h
          exact g_sub [0, 1] rfl K_23
        · have h := iff_ hc_27 h
          refine g_aload_n X dX11_sorts_32 rfl 0 rfl ?_
          refine g_get X (AD := A) mm0 (mE_0 cy A σ_20) hin11 rfl 11 (by decide) lk1 (fun _ h9 => h9) rfl dX11_sorts_33 ?_
          refine g_iload_n X dX11_sorts_36 rfl 3 rfl ?_
          obtain ⟨hg_28, h⟩ := grd_some h
          refine g_iald X (AD := A) mm12 (mE_12 cy A σ_20) 0 rfl hg_28 dX11_sorts_37 ?_
          refine g_istore X dX11_sorts_38 (by decide) (lv' := [(4, .int (gr σ_20 12 v_19.toNatClampNeg)), (0, .ref (A 0)), (1, .int c_17), (2, .int c_18), (3, .int v_19)]) rfl ?_
          refine g_iload_n X dX11_sorts_40 rfl 4 rfl ?_
          refine g_istore X dX11_sorts_41 (by decide) (lv' := [(5, .int v_19), (4, .int (gr σ_20 12 v_19.toNatClampNeg)), (0, .ref (A 0)), (1, .int c_17), (2, .int c_18), (3, .int v_19)]) rfl ?_
          have L_39 : ∀ (c_29 : Int32) (c_30 : Int32) (c_31 : Int32) (c_32 : Int32) (n_35 : Nat) (v_33 : Int32) (σ_34 : St) (o_41 : Int32) (σ_40 : St), f_X11_sorts_L43 c_30 c_32 n_35 v_33 σ_34 = some (o_41, σ_40) → gG p l e ({ frames := 1, cells := 0, slots := 0, locals := 23 } : Room) s m args below meth c D (cyT cy) B 6 (eI D (cyT cy) (mW cy A X9) B below args s r σ') (mW cy A X9 σ_40) 0 0 89 [(0, .ref (A 0)), (1, .int c_29), (2, .int c_30), (3, .int c_31), (4, .int c_32), (5, .int o_41)] [] → gG p l e ({ frames := 1, cells := 0, slots := 0, locals := 23 } : Room) s m args below meth c D (cyT cy) B 6 (eI D (cyT cy) (mW cy A X9) B below args s r σ') (mW cy A X9 σ_34) 0 0 43 [(0, .ref (A 0)), (1, .int c_29), (2, .int c_30), (3, .int c_31), (4, .int c_32), (5, .int v_33)] [] := by
            intro c_29 c_30 c_31 c_32 n_35
            induction n_35 with
            | zero =>
              intro v_33 σ_34 o_41 σ_40 h K_37
              rw [f_X11_sorts_L43] at h
              cases h
            | succ n_35 ih_36 =>
              intro v_33 σ_34 o_41 σ_40 h K_37
              rw [f_X11_sorts_L43] at h
              refine g_iload X dX11_sorts_43 5 rfl ?_
              refine g_if_le X (tgt := 89) dX11_sorts_45 (by decide) (fun hc_42 => ?_) (fun hc_42 => ?_)
              · have h := ift hc_42 h
                cases h
                exact g_sub [0, 1, 2, 3, 4, 5] rfl K_37
              · have h := iff_ hc_42 h
                refine g_aload_n X dX11_sorts_48 rfl 0 rfl ?_
                refine g_iload X dX11_sorts_49 4 rfl ?_
                refine g_aload_n X dX11_sorts_51 rfl 0 rfl ?_
                refine g_get X (AD := A) mm0 (mE_0 cy A σ_34) hin11 rfl 11 (by decide) lk1 (fun _ h9 => h9) rfl dX11_sorts_52 ?_
                refine g_iload X dX11_sorts_55 5 rfl ?_
                refine g_iconst X dX11_sorts_57 (v := (1 : Int32)) (by decide) ?_
                refine g_isub X dX11_sorts_58 ?_
                obtain ⟨hg_43, h⟩ := grd_some h
                refine g_iald X (AD := A) mm12 (mE_12 cy A σ_34) 0 rfl hg_43 dX11_sorts_59 ?_
                refine g_iload_n X dX11_sorts_60 rfl 2 rfl ?_
                obtain ⟨r_45, hf_44, h⟩ := bnd_some h
                refine g_callVI (AD := A) (As := [.int c_32, .int (gr σ_34 12 (v_33 - (1 : Int32)).toNatClampNeg), .int c_30]) X (ZC_ok _ _ _ _ _) (m_X11_goesAhead hf_44) (cwV 3 X.1.2.2.2.2 gX11_sorts_X11_goesAhead rfl rfl rfl (by decide +kernel) ⟨Nat.le_of_ble_eq_true rfl, Nat.le_of_ble_eq_true rfl⟩) rfl mm0 (mE_0 cy A σ_34) rfl rfl (Nat.le_of_ble_eq_true rfl) ⟨by decide, by decide⟩ dX11_sorts_61 ?_
                refine g_if_eq X (tgt := 89) dX11_sorts_64 (by decide) (fun hc_46 => ?_) (fun hc_46 => ?_)
                · have h := ift hc_46 h
                  cases h
                  exact g_sub [0, 1, 2, 3, 4, 5] rfl K_37
                · have h := iff_ hc_46 h
                  refine g_aload_n X dX11_sorts_67 rfl 0 rfl ?_
                  refine g_get X (AD := A) mm0 (mE_0 cy A σ_34) hin11 rfl 11 (by decide) lk1 (fun _ h9 => h9) rfl dX11_sorts_68 ?_
                  refine g_iload X dX11_sorts_71 5 rfl ?_
                  refine g_aload_n X dX11_sorts_73 rfl 0 rfl ?_
                  refine g_get X (AD := A) mm0 (mE_0 cy A σ_34) hin11 rfl 11 (by decide) lk1 (fun _ h9 => h9) rfl dX11_sorts_74 ?_
                  refine g_iload X dX11_sorts_77 5 rfl ?_
                  refine g_iconst X dX11_sorts_79 (v := (1 : Int32)) (by decide) ?_
                  refine g_isub X dX11_sorts_80 ?_
                  obtain ⟨hg_47, h⟩ := grd_some h
                  refine g_iald X (AD := A) mm12 (mE_12 cy A σ_34) 0 rfl hg_47 dX11_sorts_81 ?_
                  obtain ⟨hg_48, h⟩ := grd_some h
                  refine g_iast X (AD := A) (σ' := sr σ_34 12 (upd (gr σ_34 12) v_33.toNatClampNeg (gr σ_34 12 (v_33 - (1 : Int32)).toNatClampNeg))) mm12 (mE_12 cy A σ_34) 0 rfl hg_48 (sm_a12 cy A σ_34 (upd (gr σ_34 12) v_33.toNatClampNeg (gr σ_34 12 (v_33 - (1 : Int32)).toNatClampNeg))) dX11_sorts_82 ?_
                  obtain ⟨σ_49, e_50, h⟩ := bnd_some h
                  have e_50 := Option.some.inj e_50
                  rw [e_50]
                  refine g_iinc X dX11_sorts_83 5 rfl (v := v_33 + (-1 : Int32)) rfl (by decide) (lv' := [(5, .int (v_33 + (-1 : Int32))), (0, .ref (A 0)), (1, .int c_29), (2, .int c_30), (3, .int c_31), (4, .int c_32)]) rfl ?_
                  refine g_goto X (tgt := 43) dX11_sorts_86 (by decide) ?_
                  exact g_sub [1, 2, 3, 4, 5, 0] rfl (ih_36 _ _ _ _ h K_37)
          obtain ⟨o_41, σ_40, hl_51, h⟩ := bnd2_some h
          refine g_sub [2, 3, 4, 5, 1, 0] rfl (L_39 c_17 c_18 v_19 (gr σ_20 12 v_19.toNatClampNeg) FU v_19 σ_20 o_41 σ_40 hl_51 ?_)
          refine g_aload_n X dX11_sorts_89 rfl 0 rfl ?_
          refine g_get X (AD := A) mm0 (mE_0 cy A σ_40) hin11 rfl 11 (by decide) lk1 (fun _ h9 => h9) rfl dX11_sorts_90 ?_
          refine g_iload X dX11_sorts_93 5 rfl ?_
          refine g_iload X dX11_sorts_95 4 rfl ?_
          obtain ⟨hg_52, h⟩ := grd_some h
          refine g_iast X (AD := A) (σ' := sr σ_40 12 (upd (gr σ_40 12) o_41.toNatClampNeg (gr σ_20 12 v_19.toNatClampNeg))) mm12 (mE_12 cy A σ_40) 0 rfl hg_52 (sm_a12 cy A σ_40 (upd (gr σ_40 12) o_41.toNatClampNeg (gr σ_20 12 v_19.toNatClampNeg))) dX11_sorts_97 ?_
          obtain ⟨σ_53, e_54, h⟩ := bnd_some h
          have e_54 := Option.some.inj e_54
          rw [e_54]
          refine g_iinc X dX11_sorts_98 3 rfl (v := v_19 + (1 : Int32)) rfl (by decide) (lv' := [(3, .int (v_19 + (1 : Int32))), (0, .ref (A 0)), (1, .int c_17), (2, .int c_18), (4, .int (gr σ_20 12 v_19.toNatClampNeg)), (5, .int o_41)]) rfl ?_
          refine g_goto X (tgt := 27) dX11_sorts_101 (by decide) ?_
          exact g_sub [1, 2, 3, 0] rfl (ih_22 _ _ _ h K_23)
    obtain ⟨σ_26, hl_55, h⟩ := bnd_some h
    refine g_sub [1, 2, 3, 0] rfl (L_25 a1 a2 FU (1 : Int32) σ_10 σ_26 hl_55 ?_)
    refine g_iconst X dX11_sorts_104 (v := (0 : Int32)) (by decide) ?_
    refine g_istore_n X dX11_sorts_105 rfl (by decide) (lv' := [(3, .int (0 : Int32)), (0, .ref (A 0)), (1, .int a1)]) rfl ?_
    refine g_iconst X dX11_sorts_106 (v := (0 : Int32)) (by decide) ?_
    refine g_istore X dX11_sorts_107 (by decide) (lv' := [(4, .int (0 : Int32)), (3, .int (0 : Int32)), (0, .ref (A 0)), (1, .int a1)]) rfl ?_
    have L_64 : ∀ (c_56 : Int32) (σ_59 : St) (n_60 : Nat) (v_57 : Int32) (v_58 : Int32) (o_65 : Int32), f_X11_sorts_L109 c_56 σ_59 n_60 v_57 v_58 = some (o_65) → gG p l e ({ frames := 1, cells := 0, slots := 0, locals := 23 } : Room) s m args below meth c D (cyT cy) B 6 (eI D (cyT cy) (mW cy A X9) B below args s r σ') (mW cy A X9 σ_59) 0 0 146 [(3, .int o_65)] [] → gG p l e ({ frames := 1, cells := 0, slots := 0, locals := 23 } : Room) s m args below meth c D (cyT cy) B 6 (eI D (cyT cy) (mW cy A X9) B below args s r σ') (mW cy A X9 σ_59) 0 0 109 [(0, .ref (A 0)), (1, .int c_56), (3, .int v_57), (4, .int v_58)] [] := by
      intro c_56 σ_59 n_60
      induction n_60 with
      | zero =>
        intro v_57 v_58 o_65 h K_62
        rw [f_X11_sorts_L109] at h
        cases h
      | succ n_60 ih_61 =>
        intro v_57 v_58 o_65 h K_62
        rw [f_X11_sorts_L109] at h
        refine g_iload X dX11_sorts_109 3 rfl ?_
        refine g_iload_n X dX11_sorts_111 rfl 1 rfl ?_
        refine g_icmp_ge X (tgt := 146) dX11_sorts_112 (by decide) (fun hc_66 => ?_) (fun hc_66 => ?_)
        · have h := ift hc_66 h
          cases h
          exact g_sub [2] rfl K_62
        · have h := iff_ hc_66 h
          refine g_iload_n X dX11_sorts_115 rfl 2 rfl ?_
          refine g_aload_n X dX11_sorts_116 rfl 0 rfl ?_
          refine g_get X (AD := A) mm0 (mE_0 cy A σ_59) hin11 rfl 11 (by decide) lk1 (fun _ h9 => h9) rfl dX11_sorts_117 ?_
          refine g_iload X dX11_sorts_120 3 rfl ?_
          obtain ⟨hg_67, h⟩ := grd_some h
          refine g_iald X (AD := A) mm12 (mE_12 cy A σ_59) 0 rfl hg_67 dX11_sorts_122 ?_
          refine g_aload_n X dX11_sorts_123 rfl 0 rfl ?_
          refine g_get X (AD := A) mm0 (mE_0 cy A σ_59) hin11 rfl 12 (by decide) lk0 (fun _ h9 => h9) rfl dX11_sorts_124 ?_
          refine g_iload X dX11_sorts_127 3 rfl ?_
          obtain ⟨hg_68, h⟩ := grd_some h
          refine g_iald X (AD := A) mm13 (mE_13 cy A σ_59) 0 rfl hg_68 dX11_sorts_129 ?_
          obtain ⟨v_70, hj_72, h⟩ := bnd_some h
          have K_71 : gG p l e ({ frames := 1, cells := 0, slots := 0, locals := 23 } : Room) s m args below meth c D (cyT cy) B 6 (eI D (cyT cy) (mW cy A X9) B below args s r σ') (mW cy A X9 σ_59) 0 0 138 [(0, .ref (A 0)), (1, .int c_56), (4, .int v_58)] [.int v_70, .int v_57] := by
            refine g_iadd X dX11_sorts_138 ?_
            refine g_istore_n X dX11_sorts_139 rfl (by decide) (lv' := [(3, .int (v_57 + v_70)), (0, .ref (A 0)), (1, .int c_56), (4, .int v_58)]) rfl ?_
            refine g_iinc X dX11_sorts_140 3 rfl (v := v_58 + (1 : Int32)) rfl (by decide) (lv' := [(4, .int (v_58 + (1 : Int32))), (3, .int (v_57 + v_70)), (0, .ref (A 0)), (1, .int c_56)]) rfl ?_
            refine g_goto X (tgt := 109) dX11_sorts_143 (by decide) ?_
            exact g_sub [2, 3, 1, 0] rfl (ih_61 _ _ _ h K_62)
          have h := hj_72
          clear hj_72
          refine g_icmp_ne X (tgt := 137) dX11_sorts_130 (by decide) (fun hc_69 => ?_) (fun hc_69 => ?_)
          · have h := iff_ hc_69 h
            refine g_iconst X dX11_sorts_137 (v := (1 : Int32)) (by decide) ?_
            cases h
            exact g_sub [0, 1, 3] rfl K_71
          · have h := ift hc_69 h
            refine g_iconst X dX11_sorts_133 (v := (0 : Int32)) (by decide) ?_
            refine g_goto X (tgt := 138) dX11_sorts_134 (by decide) ?_
            cases h
            exact g_sub [0, 1, 3] rfl K_71
    obtain ⟨o_65, hl_73, h⟩ := bnd_some h
    refine g_sub [2, 3, 1, 0] rfl (L_64 a1 σ_26 FU (0 : Int32) (0 : Int32) o_65 hl_73 ?_)
    refine g_iload_n X dX11_sorts_146 rfl 0 rfl ?_
    cases h
    exact g_iret (Wf := mW cy A X9) X ⟨rfl, rfl⟩ dX11_sorts_147
  exact K0
end MV
