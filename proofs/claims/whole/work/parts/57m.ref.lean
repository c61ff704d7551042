section MV
variable {D : va_G} {cy : Nat → ClassId} {A aK aO aS aV aT : Nat → Nat} {l : Launch} {X9 : va_W}
set_option maxHeartbeats 8000000 in
set_option maxRecDepth 100000 in
theorem m_X11_turn {σ : St} {a1 : Int32} {r : Int32} {σ' : St} (h : f_X11_turn a1 σ = some (r, σ')) : mI (ZC aK aO aS aV aT) D (cyT cy) l yX11_turn wsX11_turn ({ frames := 2, cells := 0, slots := 0, locals := 42 } : Room) (mW cy A X9) [.ref (A 0), .int a1] σ r σ' := by
  unfold f_X11_turn at h
  refine mI_of (cc := cX11_turn) (maxL := 4) (ret := (some .int)) (by decide) rfl (Nat.le_of_ble_eq_true rfl) (fun p e s m args below meth c B X => ?_)
  have hin11 : ∀ w ∈ wsX110, w ∈ wsX11_turn := by decide +kernel
  have lk0 : Cond.fieldLink RX11 22 "CardcabinetModel" "many" "[I" ∈ wsX11_turn := by decide +kernel
  have lk1 : Cond.fieldLink RX11 16 "CardcabinetModel" "cards" "[I" ∈ wsX11_turn := by decide +kernel
  have K0 : gG p l e ({ frames := 2, cells := 0, slots := 0, locals := 42 } : Room) s m args below meth c D (cyT cy) B 4 (eI D (cyT cy) (mW cy A X9) B below args s r σ') (mW cy A X9 σ) 0 0 0 [(0, .ref (A 0)), (1, .int a1)] [] := by
    refine g_iload_n X dX11_turn_0 rfl 1 rfl ?_
    obtain ⟨r_2, hf_1, h⟩ := bnd_some h
    refine g_callSI (AD := A) (As := [.int a1]) X (ZC_ok _ _ _ _ _) (m_X11_isRow hf_1) (va_cwS 1 X.1.2.2.2.2 gX11_turn_X11_isRow rfl rfl rfl (by decide +kernel) ⟨Nat.le_of_ble_eq_true rfl, Nat.le_of_ble_eq_true rfl⟩) rfl rfl (Nat.le_of_ble_eq_true rfl) ⟨by decide, by decide⟩ dX11_turn_1 ?_
    refine g_if_ne X (tgt := 13) dX11_turn_4 (by decide) (fun hc_3 => ?_) (fun hc_3 => ?_)
    · have h := iff_ hc_3 h
      refine g_iconst X dX11_turn_13 (v := (0 : Int32)) (by decide) ?_
      refine g_istore_n X dX11_turn_14 rfl (by decide) (lv' := [(2, .int (0 : Int32)), (0, .ref (A 0)), (1, .int a1)]) rfl ?_
      have L_11 : ∀ (c_4 : Int32) (n_7 : Nat) (v_5 : Int32) (σ_6 : St) (σ_12 : St), f_X11_turn_L15 c_4 n_7 v_5 σ_6 = some (σ_12) → gG p l e ({ frames := 2, cells := 0, slots := 0, locals := 42 } : Room) s m args below meth c D (cyT cy) B 4 (eI D (cyT cy) (mW cy A X9) B below args s r σ') (mW cy A X9 σ_12) 0 0 101 [(0, .ref (A 0)), (1, .int c_4)] [] → gG p l e ({ frames := 2, cells := 0, slots := 0, locals := 42 } : Room) s m args below meth c D (cyT cy) B 4 (eI D (cyT cy) (mW cy A X9) B below args s r σ') (mW cy A X9 σ_6) 0 0 15 [(0, .ref (A 0)), (1, .int c_4), (2, .int v_5)] [] := by
        intro c_4 n_7
        induction n_7 with
        | zero =>
          intro v_5 σ_6 σ_12 h K_9
          rw [f_X11_turn_L15] at h
          cases h
        | succ n_7 ih_8 =>
          intro v_5 σ_6 σ_12 h K_9
          rw [f_X11_turn_L15] at h
          refine g_iload_n X dX11_turn_15 rfl 2 rfl ?_
          refine g_aload_n X dX11_turn_16 rfl 0 rfl ?_
          refine g_get X (AD := A) mm0 (mE_0 cy A σ_6) hin11 rfl 5 (by decide) lk0 (fun _ h9 => h9) rfl dX11_turn_17 ?_
          refine g_iload_n X dX11_turn_20 rfl 1 rfl ?_
          obtain ⟨hg_13, h⟩ := grd_some h
          refine g_iald X (AD := A) mm6 (mE_6 cy A σ_6) 0 rfl hg_13 dX11_turn_21 ?_
          refine g_iconst X dX11_turn_22 (v := (2 : Int32)) (by decide) ?_
          refine g_idiv X dX11_turn_23 (by decide) ?_
          refine g_icmp_ge X (tgt := 101) dX11_turn_24 (by decide) (fun hc_14 => ?_) (fun hc_14 => ?_)
          · have h := ift hc_14 h
            cases h
            exact g_sub [0, 1] rfl K_9
          · have h := iff_ hc_14 h
            refine g_aload_n X dX11_turn_27 rfl 0 rfl ?_
            refine g_get X (AD := A) mm0 (mE_0 cy A σ_6) hin11 rfl 3 (by decide) lk1 (fun _ h9 => h9) rfl dX11_turn_28 ?_
            refine g_sipush X dX11_turn_31 (v := (800 : Int32)) (by decide) ?_
            refine g_iload_n X dX11_turn_34 rfl 1 rfl ?_
            refine g_imul X dX11_turn_35 ?_
            refine g_iload_n X dX11_turn_36 rfl 2 rfl ?_
            refine g_iadd X dX11_turn_37 ?_
            obtain ⟨hg_15, h⟩ := grd_some h
            refine g_iald X (AD := A) mm4 (mE_4 cy A σ_6) 0 rfl hg_15 dX11_turn_38 ?_
            refine g_istore_n X dX11_turn_39 rfl (by decide) (lv' := [(3, .int (gr σ_6 4 (((800 : Int32) * c_4) + v_5).toNatClampNeg)), (0, .ref (A 0)), (1, .int c_4), (2, .int v_5)]) rfl ?_
            refine g_aload_n X dX11_turn_40 rfl 1 rfl ?_
            refine g_get X (AD := A) mm0 (mE_0 cy A σ_6) hin11 rfl 3 (by decide) lk1 (fun _ h9 => h9) rfl dX11_turn_41 ?_
            refine g_sipush X dX11_turn_44 (v := (800 : Int32)) (by decide) ?_
            refine g_iload_n X dX11_turn_47 rfl 2 rfl ?_
            refine g_imul X dX11_turn_48 ?_
            refine g_iload_n X dX11_turn_49 rfl 3 rfl ?_
            refine g_iadd X dX11_turn_50 ?_
            refine g_aload_n X dX11_turn_51 rfl 1 rfl ?_
            refine g_get X (AD := A) mm0 (mE_0 cy A σ_6) hin11 rfl 3 (by decide) lk1 (fun _ h9 => h9) rfl dX11_turn_52 ?_
            refine g_sipush X dX11_turn_55 (v := (800 : Int32)) (by decide) ?_
            refine g_iload_n X dX11_turn_58 rfl 2 rfl ?_
            refine g_imul X dX11_turn_59 ?_
            refine g_aload_n X dX11_turn_60 rfl 1 rfl ?_
            refine g_get X (AD := A) mm0 (mE_0 cy A σ_6) hin11 rfl 5 (by decide) lk0 (fun _ h9 => h9) rfl dX11_turn_61 ?_
            refine g_iload_n X dX11_turn_64 rfl 2 rfl ?_
            obtain ⟨hg_16, h⟩ := grd_some h
            refine g_iald X (AD := A) mm6 (mE_6 cy A σ_6) 0 rfl hg_16 dX11_turn_65 ?_
            refine g_iadd X dX11_turn_66 ?_
            refine g_iconst X dX11_turn_67 (v := (1 : Int32)) (by decide) ?_
            refine g_isub X dX11_turn_68 ?_
            refine g_iload_n X dX11_turn_69 rfl 3 rfl ?_
            refine g_isub X dX11_turn_70 ?_
            obtain ⟨hg_17, h⟩ := grd_some h
            refine g_iald X (AD := A) mm4 (mE_4 cy A σ_6) 0 rfl hg_17 dX11_turn_71 ?_
            obtain ⟨hg_18, h⟩ := grd_some h
            refine g_iast X (AD := A) (σ' := sr σ_6 4 (upd (gr σ_6 4) (((800 : Int32) * c_4) + v_5).toNatClampNeg (gr σ_6 4 (((((800 : Int32) * c_4) + (gr σ_6 6 c_4.toNatClampNeg)) - (1 : Int32)) - v_5).toNatClampNeg))) mm4 (mE_4 cy A σ_6) 0 rfl hg_18 (sm_a4 cy A σ_6 (upd (gr σ_6 4) (((800 : Int32) * c_4) + v_5).toNatClampNeg (gr σ_6 4 (((((800 : Int32) * c_4) + (gr σ_6 6 c_4.toNatClampNeg)) - (1 : Int32)) - v_5).toNatClampNeg))) dX11_turn_72 ?_
            obtain ⟨σ_19, e_20, h⟩ := bnd_some h
            have e_20 := Option.some.inj e_20
            rw [e_20]
            refine g_aload_n X dX11_turn_73 rfl 1 rfl ?_
            refine g_get X (AD := A) mm0 (mE_0 cy A σ_19) hin11 rfl 3 (by decide) lk1 (fun _ h9 => h9) rfl dX11_turn_74 ?_
            refine g_sipush X dX11_turn_77 (v := (800 : Int32)) (by decide) ?_
            refine g_iload_n X dX11_turn_80 rfl 2 rfl ?_
            refine g_imul X dX11_turn_81 ?_
            refine g_aload_n X dX11_turn_82 rfl 1 rfl ?_
            refine g_get X (AD := A) mm0 (mE_0 cy A σ_19) hin11 rfl 5 (by decide) lk0 (fun _ h9 => h9) rfl dX11_turn_83 ?_
            refine g_iload_n X dX11_turn_86 rfl 2 rfl ?_
            obtain ⟨hg_21, h⟩ := grd_some h
            refine g_iald X (AD := A) mm6 (mE_6 cy A σ_19) 0 rfl hg_21 dX11_turn_87 ?_
            refine g_iadd X dX11_turn_88 ?_
            refine g_iconst X dX11_turn_89 (v := (1 : Int32)) (by decide) ?_
            refine g_isub X dX11_turn_90 ?_
            refine g_iload_n X dX11_turn_91 rfl 3 rfl ?_
            refine g_isub X dX11_turn_92 ?_
            refine g_iload_n X dX11_turn_93 rfl 0 rfl ?_
            obtain ⟨hg_22, h⟩ := grd_some h
            refine g_iast X (AD := A) (σ' := sr σ_19 4 (upd (gr σ_19 4) (((((800 : Int32) * c_4) + (gr σ_19 6 c_4.toNatClampNeg)) - (1 : Int32)) - v_5).toNatClampNeg (gr σ_6 4 (((800 : Int32) * c_4) + v_5).toNatClampNeg))) mm4 (mE_4 cy A σ_19) 0 rfl hg_22 (sm_a4 cy A σ_19 (upd (gr σ_19 4) (((((800 : Int32) * c_4) + (gr σ_19 6 c_4.toNatClampNeg)) - (1 : Int32)) - v_5).toNatClampNeg (gr σ_6 4 (((800 : Int32) * c_4) + v_5).toNatClampNeg))) dX11_turn_94 ?_
            obtain ⟨σ_23, e_24, h⟩ := bnd_some h
            have e_24 := Option.some.inj e_24
            rw [e_24]
            refine g_iinc X dX11_turn_95 3 rfl (v := v_5 + (1 : Int32)) rfl (by decide) (lv' := [(2, .int (v_5 + (1 : Int32))), (3, .int (gr σ_6 4 (((800 : Int32) * c_4) + v_5).toNatClampNeg)), (0, .ref (A 0)), (1, .int c_4)]) rfl ?_
            refine g_goto X (tgt := 15) dX11_turn_98 (by decide) ?_
            exact g_sub [2, 3, 0] rfl (ih_8 _ _ _ h K_9)
      obtain ⟨σ_12, hl_25, h⟩ := bnd_some h
      refine g_sub [1, 2, 0] rfl (L_11 a1 FU (0 : Int32) σ σ_12 hl_25 ?_)
      refine g_aload_n X dX11_turn_101 rfl 0 rfl ?_
      refine g_aload_n X dX11_turn_102 rfl 0 rfl ?_
      refine g_get X (AD := A) mm0 (mE_0 cy A σ_12) hin11 rfl 5 (by decide) lk0 (fun _ h9 => h9) rfl dX11_turn_103 ?_
      refine g_iload_n X dX11_turn_106 rfl 1 rfl ?_
      obtain ⟨hg_26, h⟩ := grd_some h
      refine g_iald X (AD := A) mm6 (mE_6 cy A σ_12) 0 rfl hg_26 dX11_turn_107 ?_
      obtain ⟨r_28, σ_29, hf_27, h⟩ := bnd2_some h
      refine g_callVI (AD := A) (As := [.int (gr σ_12 6 a1.toNatClampNeg)]) X (ZC_ok _ _ _ _ _) (m_X11_told hf_27) (cwV 1 X.1.2.2.2.2 gX11_turn_X11_told rfl rfl rfl (by decide +kernel) ⟨Nat.le_of_ble_eq_true rfl, Nat.le_of_ble_eq_true rfl⟩) rfl mm0 (mE_0 cy A σ_12) rfl rfl (Nat.le_of_ble_eq_true rfl) ⟨by decide, by decide⟩ dX11_turn_108 ?_
      cases h
      exact g_iret (Wf := mW cy A X9) X ⟨rfl, rfl⟩ dX11_turn_111
    · have h := ift hc_3 h
      refine g_aload_n X dX11_turn_7 rfl 0 rfl ?_
      refine g_iconst X dX11_turn_8 (v := (1 : Int32)) (by decide) ?_
      obtain ⟨r_31, σ_32, hf_30, h⟩ := bnd2_some h
      refine g_callVI (AD := A) (As := [.int (1 : Int32)]) X (ZC_ok _ _ _ _ _) (m_X11_refuse hf_30) (cwV 1 X.1.2.2.2.2 gX11_turn_X11_refuse rfl rfl rfl (by decide +kernel) ⟨Nat.le_of_ble_eq_true rfl, Nat.le_of_ble_eq_true rfl⟩) rfl mm0 (mE_0 cy A σ) rfl rfl (Nat.le_of_ble_eq_true rfl) ⟨by decide, by decide⟩ dX11_turn_9 ?_
      cases h
      exact g_iret (Wf := mW cy A X9) X ⟨rfl, rfl⟩ dX11_turn_12
  exact K0
set_option maxHeartbeats 8000000 in
set_option maxRecDepth 100000 in
theorem m_X11_isPlace {σ : St} {a1 : Int32} {a2 : Int32} {r : Int32} (h : f_X11_isPlace a1 a2 σ = some r) : mI (ZC aK aO aS aV aT) D (cyT cy) l yX11_isPlace wsX11_isPlace ({ frames := 2, cells := 0, slots := 0, locals := 42 } : Room) (mW cy A X9) [.ref (A 0), .int a1, .int a2] σ r σ := by
  unfold f_X11_isPlace at h
  refine mI_of (cc := cX11_isPlace) (maxL := 3) (ret := (some .boolean)) (by decide) rfl (Nat.le_of_ble_eq_true rfl) (fun p e s m args below meth c B X => ?_)
  have hin11 : ∀ w ∈ wsX110, w ∈ wsX11_isPlace := by decide +kernel
  have lk0 : Cond.fieldLink RX11 22 "CardcabinetModel" "many" "[I" ∈ wsX11_isPlace := by decide +kernel
  have K0 : gG p l e ({ frames := 2, cells := 0, slots := 0, locals := 42 } : Room) s m args below meth c D (cyT cy) B 3 (eI D (cyT cy) (mW cy A X9) B below args s r σ) (mW cy A X9 σ) 0 0 0 [(0, .ref (A 0)), (1, .int a1), (2, .int a2)] [] := by
    refine g_iload_n X dX11_isPlace_0 rfl 1 rfl ?_
    obtain ⟨r_2, hf_1, h⟩ := bnd_some h
    refine g_callSI (AD := A) (As := [.int a1]) X (ZC_ok _ _ _ _ _) (m_X11_isRow hf_1) (va_cwS 1 X.1.2.2.2.2 gX11_isPlace_X11_isRow rfl rfl rfl (by decide +kernel) ⟨Nat.le_of_ble_eq_true rfl, Nat.le_of_ble_eq_true rfl⟩) rfl rfl (Nat.le_of_ble_eq_true rfl) ⟨by decide, by decide⟩ dX11_isPlace_1 ?_
    obtain ⟨v_4, hj_11, h⟩ := bnd_some h
    have K_5 : gG p l e ({ frames := 2, cells := 0, slots := 0, locals := 42 } : Room) s m args below meth c D (cyT cy) B 3 (eI D (cyT cy) (mW cy A X9) B below args s r σ) (mW cy A X9 σ) 0 0 28 [] [.int v_4] := by
      obtain ⟨hg_10, h⟩ := grd_some h
      cases h
      exact g_zret (Wf := mW cy A X9) X (nar01 hg_10) ⟨rfl, rfl⟩ dX11_isPlace_28
    have h := hj_11
    clear hj_11
    refine g_if_eq X (tgt := 27) dX11_isPlace_4 (by decide) (fun hc_3 => ?_) (fun hc_3 => ?_)
    · have h := ift hc_3 h
      refine g_iconst X dX11_isPlace_27 (v := (0 : Int32)) (by decide) ?_
      cases h
      exact g_sub [] rfl K_5
    · have h := iff_ hc_3 h
      refine g_iload_n X dX11_isPlace_7 rfl 2 rfl ?_
      refine g_iconst X dX11_isPlace_8 (v := (0 : Int32)) (by decide) ?_
      refine g_aload_n X dX11_isPlace_9 rfl 0 rfl ?_
      refine g_get X (AD := A) mm0 (mE_0 cy A σ) hin11 rfl 5 (by decide) lk0 (fun _ h9 => h9) rfl dX11_isPlace_10 ?_
      refine g_iload_n X dX11_isPlace_13 rfl 1 rfl ?_
      obtain ⟨hg_6, h⟩ := grd_some h
      refine g_iald X (AD := A) mm6 (mE_6 cy A σ) 0 rfl hg_6 dX11_isPlace_14 ?_
      refine g_iconst X dX11_isPlace_15 (v := (1 : Int32)) (by decide) ?_
      refine g_isub X dX11_isPlace_16 ?_
      obtain ⟨r_8, hf_7, h⟩ := bnd_some h
      refine g_callSI (AD := A) (As := [.int a2, .int (0 : Int32), .int ((gr σ 6 a1.toNatClampNeg) - (1 : Int32))]) X (ZC_ok _ _ _ _ _) (m_X11_in hf_7) (va_cwS 3 X.1.2.2.2.2 gX11_isPlace_X11_in rfl rfl rfl (by decide +kernel) ⟨Nat.le_of_ble_eq_true rfl, Nat.le_of_ble_eq_true rfl⟩) rfl rfl (Nat.le_of_ble_eq_true rfl) ⟨by decide, by decide⟩ dX11_isPlace_17 ?_
      refine g_if_eq X (tgt := 27) dX11_isPlace_20 (by decide) (fun hc_9 => ?_) (fun hc_9 => ?_)
      · have h := ift hc_9 h
        refine g_iconst X dX11_isPlace_27 (v := (0 : Int32)) (by decide) ?_
        cases h
        exact g_sub [] rfl K_5
      · have h := iff_ hc_9 h
        refine g_iconst X dX11_isPlace_23 (v := (1 : Int32)) (by decide) ?_
        refine g_goto X (tgt := 28) dX11_isPlace_24 (by decide) ?_
        cases h
        exact g_sub [] rfl K_5
  exact K0
set_option maxHeartbeats 8000000 in
set_option maxRecDepth 100000 in
theorem m_X11_move {σ : St} {a1 : Int32} {a2 : Int32} {a3 : Int32} {r : Int32} {σ' : St} (h : f_X11_move a1 a2 a3 σ = some (r, σ')) : mI (ZC aK aO aS aV aT) D (cyT cy) l yX11_move wsX11_move ({ frames := 3, cells := 0, slots := 0, locals := 64 } : Room) (mW cy A X9) [.ref (A 0), .int a1, .int a2, .int a3] σ r σ' := by
  unfold f_X11_move at h
  refine mI_of (cc := cX11_move) (maxL := 6) (ret := (some .int)) (by decide) rfl (Nat.le_of_ble_eq_true rfl) (fun p e s m args below meth c B X => ?_)
  have hin11 : ∀ w ∈ wsX110, w ∈ wsX11_move := by decide +kernel
  have lk0 : Cond.fieldLink RX11 16 "CardcabinetModel" "cards" "[I" ∈ wsX11_move := by decide +kernel
  have K0 : gG p l e ({ frames := 3, cells := 0, slots := 0, locals := 64 } : Room) s m args below meth c D (cyT cy) B 6 (eI D (cyT cy) (mW cy A X9) B below args s r σ') (mW cy A X9 σ) 0 0 0 [(0, .ref (A 0)), (1, .int a1), (2, .int a2), (3, .int a3)] [] := by
    refine g_aload_n X dX11_move_0 rfl 0 rfl ?_
    refine g_iload_n X dX11_move_1 rfl 1 rfl ?_
    refine g_iload_n X dX11_move_2 rfl 2 rfl ?_
    obtain ⟨r_2, hf_1, h⟩ := bnd_some h
    refine g_callVI (AD := A) (As := [.int a1, .int a2]) X (ZC_ok _ _ _ _ _) (m_X11_isPlace hf_1) (cwV 2 X.1.2.2.2.2 gX11_move_X11_isPlace rfl rfl rfl (by decide +kernel) ⟨Nat.le_of_ble_eq_true rfl, Nat.le_of_ble_eq_true rfl⟩) rfl mm0 (mE_0 cy A σ) rfl rfl (Nat.le_of_ble_eq_true rfl) ⟨by decide, by decide⟩ dX11_move_3 ?_
    refine g_if_eq X (tgt := 18) dX11_move_6 (by decide) (fun hc_3 => ?_) (fun hc_3 => ?_)
    · have h := ift hc_3 h
      refine g_aload_n X dX11_move_18 rfl 0 rfl ?_
      refine g_iconst X dX11_move_19 (v := (1 : Int32)) (by decide) ?_
      obtain ⟨r_5, σ_6, hf_4, h⟩ := bnd2_some h
      refine g_callVI (AD := A) (As := [.int (1 : Int32)]) X (ZC_ok _ _ _ _ _) (m_X11_refuse hf_4) (cwV 1 X.1.2.2.2.2 gX11_move_X11_refuse rfl rfl rfl (by decide +kernel) ⟨Nat.le_of_ble_eq_true rfl, Nat.le_of_ble_eq_true rfl⟩) rfl mm0 (mE_0 cy A σ) rfl rfl (Nat.le_of_ble_eq_true rfl) ⟨by decide, by decide⟩ dX11_move_20 ?_
      cases h
      exact g_iret (Wf := mW cy A X9) X ⟨rfl, rfl⟩ dX11_move_23
    · have h := iff_ hc_3 h
      refine g_aload_n X dX11_move_9 rfl 0 rfl ?_
      refine g_iload_n X dX11_move_10 rfl 1 rfl ?_
      refine g_iload_n X dX11_move_11 rfl 3 rfl ?_
      obtain ⟨r_8, hf_7, h⟩ := bnd_some h
      refine g_callVI (AD := A) (As := [.int a1, .int a3]) X (ZC_ok _ _ _ _ _) (m_X11_isPlace hf_7) (cwV 2 X.1.2.2.2.2 gX11_move_X11_isPlace rfl rfl rfl (by decide +kernel) ⟨Nat.le_of_ble_eq_true rfl, Nat.le_of_ble_eq_true rfl⟩) rfl mm0 (mE_0 cy A σ) rfl rfl (Nat.le_of_ble_eq_true rfl) ⟨by decide, by decide⟩ dX11_move_12 ?_
      refine g_if_ne X (tgt := 24) dX11_move_15 (by decide) (fun hc_9 => ?_) (fun hc_9 => ?_)
      · have h := iff_ hc_9 h
        refine g_aload_n X dX11_move_24 rfl 0 rfl ?_
        refine g_get X (AD := A) mm0 (mE_0 cy A σ) hin11 rfl 3 (by decide) lk0 (fun _ h9 => h9) rfl dX11_move_25 ?_
        refine g_sipush X dX11_move_28 (v := (800 : Int32)) (by decide) ?_
        refine g_iload_n X dX11_move_31 rfl 1 rfl ?_
        refine g_imul X dX11_move_32 ?_
        refine g_iload_n X dX11_move_33 rfl 2 rfl ?_
        refine g_iadd X dX11_move_34 ?_
        obtain ⟨hg_10, h⟩ := grd_some h
        refine g_iald X (AD := A) mm4 (mE_4 cy A σ) 0 rfl hg_10 dX11_move_35 ?_
        refine g_istore X dX11_move_36 (by decide) (lv' := [(4, .int (gr σ 4 (((800 : Int32) * a1) + a2).toNatClampNeg)), (0, .ref (A 0)), (1, .int a1), (2, .int a2), (3, .int a3)]) rfl ?_
        refine g_iload_n X dX11_move_38 rfl 3 rfl ?_
        refine g_istore X dX11_move_39 (by decide) (lv' := [(5, .int a2), (4, .int (gr σ 4 (((800 : Int32) * a1) + a2).toNatClampNeg)), (0, .ref (A 0)), (1, .int a1), (2, .int a2), (3, .int a3)]) rfl ?_
        have L_21 : ∀ (c_11 : Int32) (c_12 : Int32) (c_13 : Int32) (c_14 : Int32) (n_17 : Nat) (v_15 : Int32) (σ_16 : St) (σ_22 : St), f_X11_move_L41 c_11 c_13 n_17 v_15 σ_16 = some (σ_22) → gG p l e ({ frames := 3, cells := 0, slots := 0, locals := 64 } : Room) s m args below meth c D (cyT cy) B 6 (eI D (cyT cy) (mW cy A X9) B below args s r σ') (mW cy A X9 σ_22) 0 0 81 [(0, .ref (A 0)), (1, .int c_11), (2, .int c_12), (3, .int c_13), (4, .int c_14)] [] → gG p l e ({ frames := 3, cells := 0, slots := 0, locals := 64 } : Room) s m args below meth c D (cyT cy) B 6 (eI D (cyT cy) (mW cy A X9) B below args s r σ') (mW cy A X9 σ_16) 0 0 41 [(0, .ref (A 0)), (1, .int c_11), (2, .int c_12), (3, .int c_13), (4, .int c_14), (5, .int v_15)] [] := by
          intro c_11 c_12 c_13 c_14 n_17
          induction n_17 with
          | zero =>
            intro v_15 σ_16 σ_22 h K_19
            rw [f_X11_move_L41] at h
            cases h
          | succ n_17 ih_18 =>
            intro v_15 σ_16 σ_22 h K_19
            rw [f_X11_move_L41] at h
            refine g_iload X dX11_move_41 5 rfl ?_
            refine g_iload_n X dX11_move_43 rfl 3 rfl ?_
            refine g_icmp_ge X (tgt := 81) dX11_move_44 (by decide) (fun hc_23 => ?_) (fun hc_23 => ?_)
            · have h := ift hc_23 h
              cases h
              exact g_sub [0, 1, 2, 3, 4] rfl K_19
            · have h := iff_ hc_23 h
              refine g_aload_n X dX11_move_47 rfl 0 rfl ?_
              refine g_get X (AD := A) mm0 (mE_0 cy A σ_16) hin11 rfl 3 (by decide) lk0 (fun _ h9 => h9) rfl dX11_move_48 ?_
              refine g_sipush X dX11_move_51 (v := (800 : Int32)) (by decide) ?_
              refine g_iload_n X dX11_move_54 rfl 1 rfl ?_
              refine g_imul X dX11_move_55 ?_
              refine g_iload X dX11_move_56 5 rfl ?_
              refine g_iadd X dX11_move_58 ?_
              refine g_aload_n X dX11_move_59 rfl 0 rfl ?_
              refine g_get X (AD := A) mm0 (mE_0 cy A σ_16) hin11 rfl 3 (by decide) lk0 (fun _ h9 => h9) rfl dX11_move_60 ?_
              refine g_sipush X dX11_move_63 (v := (800 : Int32)) (by decide) ?_
              refine g_iload_n X dX11_move_66 rfl 1 rfl ?_
              refine g_imul X dX11_move_67 ?_
              refine g_iload X dX11_move_68 5 rfl ?_
              refine g_iadd X dX11_move_70 ?_
              refine g_iconst X dX11_move_71 (v := (1 : Int32)) (by decide) ?_
              refine g_iadd X dX11_move_72 ?_
              obtain ⟨hg_24, h⟩ := grd_some h
              refine g_iald X (AD := A) mm4 (mE_4 cy A σ_16) 0 rfl hg_24 dX11_move_73 ?_
              obtain ⟨hg_25, h⟩ := grd_some h
              refine g_iast X (AD := A) (σ' := sr σ_16 4 (upd (gr σ_16 4) (((800 : Int32) * c_11) + v_15).toNatClampNeg (gr σ_16 4 ((((800 : Int32) * c_11) + v_15) + (1 : Int32)).toNatClampNeg))) mm4 (mE_4 cy A σ_16) 0 rfl hg_25 (sm_a4 cy A σ_16 (upd (gr σ_16 4) (((800 : Int32) * c_11) + v_15).toNatClampNeg (gr σ_16 4 ((((800 : Int32) * c_11) + v_15) + (1 : Int32)).toNatClampNeg))) dX11_move_74 ?_
              obtain ⟨σ_26, e_27, h⟩ := bnd_some h
              have e_27 := Option.some.inj e_27
              rw [e_27]
              refine g_iinc X dX11_move_75 5 rfl (v := v_15 + (1 : Int32)) rfl (by decide) (lv' := [(5, .int (v_15 + (1 : Int32))), (0, .ref (A 0)), (1, .int c_11), (2, .int c_12), (3, .int c_13), (4, .int c_14)]) rfl ?_
              refine g_goto X (tgt := 41) dX11_move_78 (by decide) ?_
              exact g_sub [1, 2, 3, 4, 5, 0] rfl (ih_18 _ _ _ h K_19)
        obtain ⟨σ_22, hl_28, h⟩ := bnd_some h
        refine g_sub [2, 3, 4, 5, 1, 0] rfl (L_21 a1 a2 a3 (gr σ 4 (((800 : Int32) * a1) + a2).toNatClampNeg) FU a2 σ σ_22 hl_28 ?_)
        refine g_iload_n X dX11_move_81 rfl 2 rfl ?_
        refine g_istore X dX11_move_82 (by decide) (lv' := [(5, .int a2), (0, .ref (A 0)), (1, .int a1), (2, .int a2), (3, .int a3), (4, .int (gr σ 4 (((800 : Int32) * a1) + a2).toNatClampNeg))]) rfl ?_
        have L_38 : ∀ (c_29 : Int32) (c_30 : Int32) (c_31 : Int32) (n_34 : Nat) (v_32 : Int32) (σ_33 : St) (σ_39 : St), f_X11_move_L84 c_29 c_30 n_34 v_32 σ_33 = some (σ_39) → gG p l e ({ frames := 3, cells := 0, slots := 0, locals := 64 } : Room) s m args below meth c D (cyT cy) B 6 (eI D (cyT cy) (mW cy A X9) B below args s r σ') (mW cy A X9 σ_39) 0 0 124 [(0, .ref (A 0)), (1, .int c_29), (3, .int c_30), (4, .int c_31)] [] → gG p l e ({ frames := 3, cells := 0, slots := 0, locals := 64 } : Room) s m args below meth c D (cyT cy) B 6 (eI D (cyT cy) (mW cy A X9) B below args s r σ') (mW cy A X9 σ_33) 0 0 84 [(0, .ref (A 0)), (1, .int c_29), (3, .int c_30), (4, .int c_31), (5, .int v_32)] [] := by
          intro c_29 c_30 c_31 n_34
          induction n_34 with
          | zero =>
            intro v_32 σ_33 σ_39 h K_36
            rw [f_X11_move_L84] at h
            cases h
          | succ n_34 ih_35 =>
            intro v_32 σ_33 σ_39 h K_36
            rw [f_X11_move_L84] at h
            refine g_iload X dX11_move_84 4 rfl ?_
            refine g_iload_n X dX11_move_86 rfl 2 rfl ?_
            refine g_icmp_le X (tgt := 124) dX11_move_87 (by decide) (fun hc_40 => ?_) (fun hc_40 => ?_)
            · have h := ift hc_40 h
              cases h
              exact g_sub [0, 1, 2, 3] rfl K_36
            · have h := iff_ hc_40 h
              refine g_aload_n X dX11_move_90 rfl 0 rfl ?_
              refine g_get X (AD := A) mm0 (mE_0 cy A σ_33) hin11 rfl 3 (by decide) lk0 (fun _ h9 => h9) rfl dX11_move_91 ?_
              refine g_sipush X dX11_move_94 (v := (800 : Int32)) (by decide) ?_
              refine g_iload_n X dX11_move_97 rfl 1 rfl ?_
              refine g_imul X dX11_move_98 ?_
              refine g_iload X dX11_move_99 4 rfl ?_
              refine g_iadd X dX11_move_101 ?_
              refine g_aload_n X dX11_move_102 rfl 0 rfl ?_
              refine g_get X (AD := A) mm0 (mE_0 cy A σ_33) hin11 rfl 3 (by decide) lk0 (fun _ h9 => h9) rfl dX11_move_103 ?_
              refine g_sipush X dX11_move_106 (v := (800 : Int32)) (by decide) ?_
              refine g_iload_n X dX11_move_109 rfl 1 rfl ?_
              refine g_imul X dX11_move_110 ?_
              refine g_iload X dX11_move_111 4 rfl ?_
              refine g_iadd X dX11_move_113 ?_
              refine g_iconst X dX11_move_114 (v := (1 : Int32)) (by decide) ?_
              refine g_isub X dX11_move_115 ?_
              obtain ⟨hg_41, h⟩ := grd_some h
              refine g_iald X (AD := A) mm4 (mE_4 cy A σ_33) 0 rfl hg_41 dX11_move_116 ?_
              obtain ⟨hg_42, h⟩ := grd_some h
              refine g_iast X (AD := A) (σ' := sr σ_33 4 (upd (gr σ_33 4) (((800 : Int32) * c_29) + v_32).toNatClampNeg (gr σ_33 4 ((((800 : Int32) * c_29) + v_32) - (1 : Int32)).toNatClampNeg))) mm4 (mE_4 cy A σ_33) 0 rfl hg_42 (sm_a4 cy A σ_33 (upd (gr σ_33 4) (((800 : Int32) * c_29) + v_32).toNatClampNeg (gr σ_33 4 ((((800 : Int32) * c_29) + v_32) - (1 : Int32)).toNatClampNeg))) dX11_move_117 ?_
              obtain ⟨σ_43, e_44, h⟩ := bnd_some h
              have e_44 := Option.some.inj e_44
              rw [e_44]
              refine g_iinc X dX11_move_118 4 rfl (v := v_32 + (-1 : Int32)) rfl (by decide) (lv' := [(5, .int (v_32 + (-1 : Int32))), (0, .ref (A 0)), (1, .int c_29), (3, .int c_30), (4, .int c_31)]) rfl ?_
              refine g_goto X (tgt := 84) dX11_move_121 (by decide) ?_
              exact g_sub [1, 2, 3, 4, 0] rfl (ih_35 _ _ _ h K_36)
        obtain ⟨σ_39, hl_45, h⟩ := bnd_some h
        refine g_sub [1, 2, 4, 5, 0] rfl (L_38 a1 a3 (gr σ 4 (((800 : Int32) * a1) + a2).toNatClampNeg) FU a2 σ_22 σ_39 hl_45 ?_)
        refine g_aload_n X dX11_move_124 rfl 0 rfl ?_
        refine g_get X (AD := A) mm0 (mE_0 cy A σ_39) hin11 rfl 3 (by decide) lk0 (fun _ h9 => h9) rfl dX11_move_125 ?_
        refine g_sipush X dX11_move_128 (v := (800 : Int32)) (by decide) ?_
        refine g_iload_n X dX11_move_131 rfl 1 rfl ?_
        refine g_imul X dX11_move_132 ?_
        refine g_iload_n X dX11_move_133 rfl 2 rfl ?_
        refine g_iadd X dX11_move_134 ?_
        refine g_iload X dX11_move_135 3 rfl ?_
        obtain ⟨hg_46, h⟩ := grd_some h
        refine g_iast X (AD := A) (σ' := sr σ_39 4 (upd (gr σ_39 4) (((800 : Int32) * a1) + a3).toNatClampNeg (gr σ 4 (((800 : Int32) * a1) + a2).toNatClampNeg))) mm4 (mE_4 cy A σ_39) 0 rfl hg_46 (sm_a4 cy A σ_39 (upd (gr σ_39 4) (((800 : Int32) * a1) + a3).toNatClampNeg (gr σ 4 (((800 : Int32) * a1) + a2).toNatClampNeg))) dX11_move_137 ?_
        obtain ⟨σ_47, e_48, h⟩ := bnd_some h
        have e_48 := Option.some.inj e_48
        rw [e_48]
        refine g_aload_n X dX11_move_138 rfl 0 rfl ?_
        refine g_iload X dX11_move_139 3 rfl ?_
        obtain ⟨r_50, σ_51, hf_49, h⟩ := bnd2_some h
        refine g_callVI (AD := A) (As := [.int (gr σ 4 (((800 : Int32) * a1) + a2).toNatClampNeg)]) X (ZC_ok _ _ _ _ _) (m_X11_told hf_49) (cwV 1 X.1.2.2.2.2 gX11_move_X11_told rfl rfl rfl (by decide +kernel) ⟨Nat.le_of_ble_eq_true rfl, Nat.le_of_ble_eq_true rfl⟩) rfl mm0 (mE_0 cy A σ_47) rfl rfl (Nat.le_of_ble_eq_true rfl) ⟨by decide, by decide⟩ dX11_move_141 ?_
        cases h
        exact g_iret (Wf := mW cy A X9) X ⟨rfl, rfl⟩ dX11_move_144
      · have h := ift hc_9 h
        refine g_aload_n X dX11_move_18 rfl 0 rfl ?_
        refine g_iconst X dX11_move_19 (v := (1 : Int32)) (by decide) ?_
        obtain ⟨r_53, σ_54, hf_52, h⟩ := bnd2_some h
        refine g_callVI (AD := A) (As := [.int (1 : Int32)]) X (ZC_ok _ _ _ _ _) (m_X11_refuse hf_52) (cwV 1 X.1.2.2.2.2 gX11_move_X11_refuse rfl rfl rfl (by decide +kernel) ⟨Nat.le_of_ble_eq_true rfl, Nat.le_of_ble_eq_true rfl⟩) rfl mm0 (mE_0 cy A σ) rfl rfl (Nat.le_of_ble_eq_true rfl) ⟨by decide, by decide⟩ dX11_move_20 ?_
        cases h
        exact g_iret (Wf := mW cy A X9) X ⟨rfl, rfl⟩ dX11_move_23
  exact K0
set_option maxHeartbeats 8000000 in
set_option maxRecDepth 100000 in
theorem m_X11_thin {σ : St} {a1 : Int32} {a2 : Int32} {r : Int32} {σ' : St} (h : f_X11_thin a1 a2 σ = some (r, σ')) : mI (ZC aK aO aS aV aT) D (cyT cy) l yX11_thin wsX11_thin ({ frames := 2, cells := 0, slots := 0, locals := 42 } : Room) (mW cy A X9) [.ref (A 0), .int a1, .int a2] σ r σ' := by
  unfold f_X11_thin at h
  refine mI_of (cc := cX11_thin) (maxL := 5) (ret := (some .int)) (by decide) rfl (Nat.le_of_ble_eq_true rfl) (fun p e s m args below meth c B X => ?_)
  have hin11 : ∀ w ∈ wsX110, w ∈ wsX11_thin := by decide +kernel
  have lk0 : Cond.fieldLink RX11 22 "CardcabinetModel" "many" "[I" ∈ wsX11_thin := by decide +kernel
  have lk1 : Cond.fieldLink RX11 13 "CardcabinetModel" "seconds" "[I" ∈ wsX11_thin := by decide +kernel
  have lk2 : Cond.fieldLink RX11 16 "CardcabinetModel" "cards" "[I" ∈ wsX11_thin := by decide +kernel
  have K0 : gG p l e ({ frames := 2, cells := 0, slots := 0, locals := 42 } : Room) s m args below meth c D (cyT cy) B 5 (eI D (cyT cy) (mW cy A X9) B below args s r σ') (mW cy A X9 σ) 0 0 0 [(0, .ref (A 0)), (1, .int a1), (2, .int a2)] [] := by
    refine g_iload_n X dX11_thin_0 rfl 1 rfl ?_
    obtain ⟨r_2, hf_1, h⟩ := bnd_some h
    refine g_callSI (AD := A) (As := [.int a1]) X (ZC_ok _ _ _ _ _) (m_X11_isRow hf_1) (va_cwS 1 X.1.2.2.2.2 gX11_thin_X11_isRow rfl rfl rfl (by decide +kernel) ⟨Nat.le_of_ble_eq_true rfl, Nat.le_of_ble_eq_true rfl⟩) rfl rfl (Nat.le_of_ble_eq_true rfl) ⟨by decide, by decide⟩ dX11_thin_1 ?_
    refine g_if_ne X (tgt := 13) dX11_thin_4 (by decide) (fun hc_3 => ?_) (fun hc_3 => ?_)
    · have h := iff_ hc_3 h
      refine g_iconst X dX11_thin_13 (v := (0 : Int32)) (by decide) ?_
      refine g_istore_n X dX11_thin_14 rfl (by decide) (lv' := [(3, .int (0 : Int32)), (0, .ref (A 0)), (1, .int a1), (2, .int a2)]) rfl ?_
      refine g_iconst X dX11_thin_15 (v := (0 : Int32)) (by decide) ?_
      refine g_istore X dX11_thin_16 (by decide) (lv' := [(4, .int (0 : Int32)), (3, .int (0 : Int32)), (0, .ref (A 0)), (1, .int a1), (2, .int a2)]) rfl ?_
      have L_13 : ∀ (c_4 : Int32) (c_5 : Int32) (n_9 : Nat) (v_6 : Int32) (v_7 : Int32) (σ_8 : St) (o_15 : Int32) (σ_14 : St), f_X11_thin_L18 c_4 c_5 n_9 v_6 v_7 σ_8 = some (o_15, σ_14) → gG p l e ({ frames := 2, cells := 0, slots := 0, locals := 42 } : Room) s m args below meth c D (cyT cy) B 5 (eI D (cyT cy) (mW cy A X9) B below args s r σ') (mW cy A X9 σ_14) 0 0 85 [(0, .ref (A 0)), (1, .int c_4), (3, .int o_15)] [] → gG p l e ({ frames := 2, cells := 0, slots := 0, locals := 42 } : Room) s m args below meth c D (cyT cy) B 5 (eI D (cyT cy) (mW cy A X9) B below args s r σ') (mW cy A X9 σ_8) 0 0 18 [(0, .ref (A 0)), (1, .int c_4), (2, .int c_5), (3, .int v_6), (4, .int v_7)] [] := by
        intro c_4 c_5 n_9
        induction n_9 with
        | zero =>
          intro v_6 v_7 σ_8 o_15 σ_14 h K_11
          rw [f_X11_thin_L18] at h
          cases h
        | succ n_9 ih_10 =>
          intro v_6 v_7 σ_8 o_15 σ_14 h K_11
          rw [f_X11_thin_L18] at h
          refine g_iload X dX11_thin_18 4 rfl ?_
          refine g_aload_n X dX11_thin_20 rfl 0 rfl ?_
          refine g_get X (AD := A) mm0 (mE_0 cy A σ_8) hin11 rfl 5 (by decide) lk0 (fun _ h9 => h9) rfl dX11_thin_21 ?_
          refine g_iload_n X dX11_thin_24 rfl 1 rfl ?_
          obtain ⟨hg_16, h⟩ := grd_some h
          refine g_iald X (AD := A) mm6 (mE_6 cy A σ_8) 0 rfl hg_16 dX11_thin_25 ?_
          refine g_icmp_ge X (tgt := 85) dX11_thin_26 (by decide) (fun hc_17 => ?_) (fun hc_17 => ?_)
          · have h := ift hc_17 h
            cases h
            exact g_sub [0, 1, 3] rfl K_11
          · have h := iff_ hc_17 h
            refine g_aload_n X dX11_thin_29 rfl 0 rfl ?_
            refine g_get X (AD := A) mm0 (mE_0 cy A σ_8) hin11 rfl 1 (by decide) lk1 (fun _ h9 => h9) rfl dX11_thin_30 ?_
            refine g_aload_n X dX11_thin_33 rfl 0 rfl ?_
            refine g_get X (AD := A) mm0 (mE_0 cy A σ_8) hin11 rfl 3 (by decide) lk2 (fun _ h9 => h9) rfl dX11_thin_34 ?_
            refine g_sipush X dX11_thin_37 (v := (800 : Int32)) (by decide) ?_
            refine g_iload_n X dX11_thin_40 rfl 1 rfl ?_
            refine g_imul X dX11_thin_41 ?_
            refine g_iload X dX11_thin_42 4 rfl ?_
            refine g_iadd X dX11_thin_44 ?_
            obtain ⟨hg_18, h⟩ := grd_some h
            refine g_iald X (AD := A) mm4 (mE_4 cy A σ_8) 0 rfl hg_18 dX11_thin_45 ?_
            obtain ⟨hg_19, h⟩ := grd_some h
            refine g_iald X (AD := A) mm2 (mE_2 cy A σ_8) 0 rfl hg_19 dX11_thin_46 ?_
            refine g_iload_n X dX11_thin_47 rfl 2 rfl ?_
            obtain ⟨v_21, σ_22, hj_28, h⟩ := bnd2_some h
            have K_23 : gG p l e ({ frames := 2, cells := 0, slots := 0, locals := 42 } : Room) s m args below meth c D (cyT cy) B 5 (eI D (cyT cy) (mW cy A X9) B below args s r σ') (mW cy A X9 σ_22) 0 0 79 [(0, .ref (A 0)), (1, .int c_4), (2, .int c_5), (3, .int v_21), (4, .int v_7)] [] := by
              refine g_iinc X dX11_thin_79 4 rfl (v := v_7 + (1 : Int32)) rfl (by decide) (lv' := [(4, .int (v_7 + (1 : Int32))), (0, .ref (A 0)), (1, .int c_4), (2, .int c_5), (3, .int v_21)]) rfl ?_
              refine g_goto X (tgt := 18) dX11_thin_82 (by decide) ?_
              exact g_sub [1, 2, 3, 4, 0] rfl (ih_10 _ _ _ _ _ h K_11)
            have h := hj_28
            clear hj_28
            refine g_icmp_eq X (tgt := 79) dX11_thin_48 (by decide) (fun hc_20 => ?_) (fun hc_20 => ?_)
            · have h := ift hc_20 h
              cases h
              exact g_sub [0, 1, 2, 3, 4] rfl K_23
            · have h := iff_ hc_20 h
              refine g_aload_n X dX11_thin_51 rfl 0 rfl ?_
              refine g_get X (AD := A) mm0 (mE_0 cy A σ_8) hin11 rfl 3 (by decide) lk2 (fun _ h9 => h9) rfl dX11_thin_52 ?_
              refine g_sipush X dX11_thin_55 (v := (800 : Int32)) (by decide) ?_
              refine g_iload_n X dX11_thin_58 rfl 1 rfl ?_
              refine g_imul X dX11_thin_59 ?_
              refine g_iload_n X dX11_thin_60 rfl 3 rfl ?_
              refine g_iadd X dX11_thin_61 ?_
              refine g_aload_n X dX11_thin_62 rfl 0 rfl ?_
              refine g_get X (AD := A) mm0 (mE_0 cy A σ_8) hin11 rfl 3 (by decide) lk2 (fun _ h9 => h9) rfl dX11_thin_63 ?_
              refine g_sipush X dX11_thin_66 (v := (800 : Int32)) (by decide) ?_
              refine g_iload_n X dX11_thin_69 rfl 1 rfl ?_
              refine g_imul X dX11_thin_70 ?_
              refine g_iload X dX11_thin_71 4 rfl ?_
              refine g_iadd X dX11_thin_73 ?_
              obtain ⟨hg_24, h⟩ := grd_some h
              refine g_iald X (AD := A) mm4 (mE_4 cy A σ_8) 0 rfl hg_24 dX11_thin_74 ?_
              obtain ⟨hg_25, h⟩ := grd_some h
              refine g_iast X (AD := A) (σ' := sr σ_8 4 (upd (gr σ_8 4) (((800 : Int32) * c_4) + v_6).toNatClampNeg (gr σ_8 4 (((800 : Int32) * c_4) + v_7).toNatClampNeg))) mm4 (mE_4 cy A σ_8) 0 rfl hg_25 (sm_a4 cy A σ_8 (upd (gr σ_8 4) (((800 : Int32) * c_4) + v_6).toNatClampNeg (gr σ_8 4 (((800 : Int32) * c_4) + v_7).toNatClampNeg))) dX11_thin_75 ?_
              obtain ⟨σ_26, e_27, h⟩ := bnd_some h
              have e_27 := Option.some.inj e_27
              rw [e_27]
              refine g_iinc X dX11_thin_76 3 rfl (v := v_6 + (1 : Int32)) rfl (by decide) (lv' := [(3, .int (v_6 + (1 : Int32))), (0, .ref (A 0)), (1, .int c_4), (2, .int c_5), (4, .int v_7)]) rfl ?_
              cases h
              exact g_sub [1, 2, 3, 0, 4] rfl K_23
      obtain ⟨o_15, σ_14, hl_29, h⟩ := bnd2_some h
      refine g_sub [2, 3, 4, 1, 0] rfl (L_13 a1 a2 FU (0 : Int32) (0 : Int32) σ o_15 σ_14 hl_29 ?_)
      refine g_aload_n X dX11_thin_85 rfl 0 rfl ?_
      refine g_get X (AD := A) mm0 (mE_0 cy A σ_14) hin11 rfl 5 (by decide) lk0 (fun _ h9 => h9) rfl dX11_thin_86 ?_
      refine g_iload_n X dX11_thin_89 rfl 1 rfl ?_
      obtain ⟨hg_30, h⟩ := grd_some h
      refine g_iald X (AD := A) mm6 (mE_6 cy A σ_14) 0 rfl hg_30 dX11_thin_90 ?_
      refine g_iload_n X dX11_thin_91 rfl 2 rfl ?_
      refine g_isub X dX11_thin_92 ?_
      refine g_istore X dX11_thin_93 (by decide) (lv' := [(4, .int ((gr σ_14 6 a1.toNatClampNeg) - o_15)), (0, .ref (A 0)), (1, .int a1), (3, .int o_15)]) rfl ?_
      refine g_aload_n X dX11_thin_95 rfl 1 rfl ?_
      refine g_get X (AD := A) mm0 (mE_0 cy A σ_14) hin11 rfl 5 (by decide) lk0 (fun _ h9 => h9) rfl dX11_thin_96 ?_
      refine g_iload_n X dX11_thin_99 rfl 2 rfl ?_
      refine g_iload_n X dX11_thin_100 rfl 3 rfl ?_
      obtain ⟨hg_31, h⟩ := grd_some h
      refine g_iast X (AD := A) (σ' := sr σ_14 6 (upd (gr σ_14 6) a1.toNatClampNeg o_15)) mm6 (mE_6 cy A σ_14) 0 rfl hg_31 (sm_a6 cy A σ_14 (upd (gr σ_14 6) a1.toNatClampNeg o_15)) dX11_thin_101 ?_
      obtain ⟨σ_32, e_33, h⟩ := bnd_some h
      have e_33 := Option.some.inj e_33
      rw [e_33]
      refine g_aload_n X dX11_thin_102 rfl 1 rfl ?_
      refine g_iload X dX11_thin_103 0 rfl ?_
      obtain ⟨r_35, σ_36, hf_34, h⟩ := bnd2_some h
      refine g_callVI (AD := A) (As := [.int ((gr σ_14 6 a1.toNatClampNeg) - o_15)]) X (ZC_ok _ _ _ _ _) (m_X11_told hf_34) (cwV 1 X.1.2.2.2.2 gX11_thin_X11_told rfl rfl rfl (by decide +kernel) ⟨Nat.le_of_ble_eq_true rfl, Nat.le_of_ble_eq_true rfl⟩) rfl mm0 (mE_0 cy A σ_32) rfl rfl (Nat.le_of_ble_eq_true rfl) ⟨by decide, by decide⟩ dX11_thin_105 ?_
      cases h
      exact g_iret (Wf := mW cy A X9) X ⟨rfl, rfl⟩ dX11_thin_108
    · have h := ift hc_3 h
      refine g_aload_n X dX11_thin_7 rfl 0 rfl ?_
      refine g_iconst X dX11_thin_8 (v := (1 : Int32)) (by decide) ?_
      obtain ⟨r_38, σ_39, hf_37, h⟩ := bnd2_some h
      refine g_callVI (AD := A) (As := [.int (1 : Int32)]) X (ZC_ok _ _ _ _ _) (m_X11_refuse hf_37) (cwV 1 X.1.2.2.2.2 gX11_thin_X11_refuse rfl rfl rfl (by decide +kernel) ⟨Nat.le_of_ble_eq_true rfl, Nat.le_of_ble_eq_true rfl⟩) rfl mm0 (mE_0 cy A σ) rfl rfl (Nat.le_of_ble_eq_true rfl) ⟨by decide, by decide⟩ dX11_thin_9 ?_
      cases h
      exact g_iret (Wf := mW cy A X9) X ⟨rfl, rfl⟩ dX11_thin_12
  exact K0
end MV
