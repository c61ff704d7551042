section MV
variable {D : va_G} {cy : Nat → ClassId} {A aK aO aS aV aT : Nat → Nat} {l : Launch} {X9 : va_W}
set_option maxHeartbeats 8000000 in
set_option maxRecDepth 100000 in
theorem m_X11_sortBySecond {σ : St} {a1 : Int32} {r : Int32} {σ' : St} (h : f_X11_sortBySecond a1 σ = some (r, σ')) : mI (ZC aK aO aS aV aT) D (cyT cy) l yX11_sortBySecond wsX11_sortBySecond ({ frames := 3, cells := 0, slots := 0, locals := 74 } : Room) (mW cy A X9) [.ref (A 0), .int a1] σ r σ' := by
  unfold f_X11_sortBySecond at h
  refine mI_of (cc := cX11_sortBySecond) (maxL := 2) (ret := (some .int)) (by decide) rfl (Nat.le_of_ble_eq_true rfl) (fun p e s m args below meth c B X => ?_)
  have hin11 : ∀ w ∈ wsX110, w ∈ wsX11_sortBySecond := by decide +kernel
  have lk0 : Cond.fieldLink RX11 22 "CardcabinetModel" "many" "[I" ∈ wsX11_sortBySecond := by decide +kernel
  have K0 : gG p l e ({ frames := 3, cells := 0, slots := 0, locals := 74 } : Room) s m args below meth c D (cyT cy) B 2 (eI D (cyT cy) (mW cy A X9) B below args s r σ') (mW cy A X9 σ) 0 0 0 [(0, .ref (A 0)), (1, .int a1)] [] := by
    refine g_iload_n X dX11_sortBySecond_0 rfl 1 rfl ?_
    obtain ⟨r_2, hf_1, h⟩ := bnd_some h
    refine g_callSI (AD := A) (As := [.int a1]) X (ZC_ok _ _ _ _ _) (m_X11_isRow hf_1) (va_cwS 1 X.1.2.2.2.2 gX11_sortBySecond_X11_isRow rfl rfl rfl (by decide +kernel) ⟨Nat.le_of_ble_eq_true rfl, Nat.le_of_ble_eq_true rfl⟩) rfl rfl (Nat.le_of_ble_eq_true rfl) ⟨by decide, by decide⟩ dX11_sortBySecond_1 ?_
    obtain ⟨v_4, σ_5, hj_17, h⟩ := bnd2_some h
    have K_6 : gG p l e ({ frames := 3, cells := 0, slots := 0, locals := 74 } : Room) s m args below meth c D (cyT cy) B 2 (eI D (cyT cy) (mW cy A X9) B below args s r σ') (mW cy A X9 σ_5) 0 0 32 [] [.int v_4] := by
      cases h
      exact g_iret (Wf := mW cy A X9) X ⟨rfl, rfl⟩ dX11_sortBySecond_32
    have h := hj_17
    clear hj_17
    refine g_if_eq X (tgt := 27) dX11_sortBySecond_4 (by decide) (fun hc_3 => ?_) (fun hc_3 => ?_)
    · have h := ift hc_3 h
      refine g_aload_n X dX11_sortBySecond_27 rfl 0 rfl ?_
      refine g_iconst X dX11_sortBySecond_28 (v := (1 : Int32)) (by decide) ?_
      obtain ⟨r_8, σ_9, hf_7, h⟩ := bnd2_some h
      refine g_callVI (AD := A) (As := [.int (1 : Int32)]) X (ZC_ok _ _ _ _ _) (m_X11_refuse hf_7) (cwV 1 X.1.2.2.2.2 gX11_sortBySecond_X11_refuse rfl rfl rfl (by decide +kernel) ⟨Nat.le_of_ble_eq_true rfl, Nat.le_of_ble_eq_true rfl⟩) rfl mm0 (mE_0 cy A σ) rfl rfl (Nat.le_of_ble_eq_true rfl) ⟨by decide, by decide⟩ dX11_sortBySecond_29 ?_
      cases h
      exact g_sub [] rfl K_6
    · have h := iff_ hc_3 h
      refine g_aload_n X dX11_sortBySecond_7 rfl 0 rfl ?_
      refine g_aload_n X dX11_sortBySecond_8 rfl 0 rfl ?_
      refine g_iload_n X dX11_sortBySecond_9 rfl 1 rfl ?_
      refine g_iconst X dX11_sortBySecond_10 (v := (0 : Int32)) (by decide) ?_
      refine g_aload_n X dX11_sortBySecond_11 rfl 0 rfl ?_
      refine g_get X (AD := A) mm0 (mE_0 cy A σ) hin11 rfl 5 (by decide) lk0 (fun _ h9 => h9) rfl dX11_sortBySecond_12 ?_
      refine g_iload_n X dX11_sortBySecond_15 rfl 1 rfl ?_
      obtain ⟨hg_10, h⟩ := grd_some h
      refine g_iald X (AD := A) mm6 (mE_6 cy A σ) 0 rfl hg_10 dX11_sortBySecond_16 ?_
      refine g_iconst X dX11_sortBySecond_17 (v := (2 : Int32)) (by decide) ?_
      obtain ⟨r_12, σ_13, hf_11, h⟩ := bnd2_some h
      refine g_callVI (AD := A) (As := [.int a1, .int (0 : Int32), .int (gr σ 6 a1.toNatClampNeg), .int (2 : Int32)]) X (ZC_ok _ _ _ _ _) (m_X11_sortsPart hf_11) (cwV 4 X.1.2.2.2.2 gX11_sortBySecond_X11_sortsPart rfl rfl rfl (by decide +kernel) ⟨Nat.le_of_ble_eq_true rfl, Nat.le_of_ble_eq_true rfl⟩) rfl mm0 (mE_0 cy A σ) rfl rfl (Nat.le_of_ble_eq_true rfl) ⟨by decide, by decide⟩ dX11_sortBySecond_18 ?_
      obtain ⟨r_15, σ_16, hf_14, h⟩ := bnd2_some h
      refine g_callVI (AD := A) (As := [.int r_12]) X (ZC_ok _ _ _ _ _) (m_X11_told hf_14) (cwV 1 X.1.2.2.2.2 gX11_sortBySecond_X11_told rfl rfl rfl (by decide +kernel) ⟨Nat.le_of_ble_eq_true rfl, Nat.le_of_ble_eq_true rfl⟩) rfl mm0 (mE_0 cy A σ_13) rfl rfl (Nat.le_of_ble_eq_true rfl) ⟨by decide, by decide⟩ dX11_sortBySecond_21 ?_
      refine g_goto X (tgt := 32) dX11_sortBySecond_24 (by decide) ?_
      cases h
      exact g_sub [] rfl K_6
  exact K0
set_option maxHeartbeats 8000000 in
set_option maxRecDepth 100000 in
theorem m_X11_sortByBoth {σ : St} {a1 : Int32} {r : Int32} {σ' : St} (h : f_X11_sortByBoth a1 σ = some (r, σ')) : mI (ZC aK aO aS aV aT) D (cyT cy) l yX11_sortByBoth wsX11_sortByBoth ({ frames := 3, cells := 0, slots := 0, locals := 74 } : Room) (mW cy A X9) [.ref (A 0), .int a1] σ r σ' := by
  unfold f_X11_sortByBoth at h
  refine mI_of (cc := cX11_sortByBoth) (maxL := 2) (ret := (some .int)) (by decide) rfl (Nat.le_of_ble_eq_true rfl) (fun p e s m args below meth c B X => ?_)
  have hin11 : ∀ w ∈ wsX110, w ∈ wsX11_sortByBoth := by decide +kernel
  have lk0 : Cond.fieldLink RX11 22 "CardcabinetModel" "many" "[I" ∈ wsX11_sortByBoth := by decide +kernel
  have K0 : gG p l e ({ frames := 3, cells := 0, slots := 0, locals := 74 } : Room) s m args below meth c D (cyT cy) B 2 (eI D (cyT cy) (mW cy A X9) B below args s r σ') (mW cy A X9 σ) 0 0 0 [(0, .ref (A 0)), (1, .int a1)] [] := by
    refine g_iload_n X dX11_sortByBoth_0 rfl 1 rfl ?_
    obtain ⟨r_2, hf_1, h⟩ := bnd_some h
    refine g_callSI (AD := A) (As := [.int a1]) X (ZC_ok _ _ _ _ _) (m_X11_isRow hf_1) (va_cwS 1 X.1.2.2.2.2 gX11_sortByBoth_X11_isRow rfl rfl rfl (by decide +kernel) ⟨Nat.le_of_ble_eq_true rfl, Nat.le_of_ble_eq_true rfl⟩) rfl rfl (Nat.le_of_ble_eq_true rfl) ⟨by decide, by decide⟩ dX11_sortByBoth_1 ?_
    obtain ⟨v_4, σ_5, hj_17, h⟩ := bnd2_some h
    have K_6 : gG p l e ({ frames := 3, cells := 0, slots := 0, locals := 74 } : Room) s m args below meth c D (cyT cy) B 2 (eI D (cyT cy) (mW cy A X9) B below args s r σ') (mW cy A X9 σ_5) 0 0 32 [] [.int v_4] := by
      cases h
      exact g_iret (Wf := mW cy A X9) X ⟨rfl, rfl⟩ dX11_sortByBoth_32
    have h := hj_17
    clear hj_17
    refine g_if_eq X (tgt := 27) dX11_sortByBoth_4 (by decide) (fun hc_3 => ?_) (fun hc_3 => ?_)
    · have h := ift hc_3 h
      refine g_aload_n X dX11_sortByBoth_27 rfl 0 rfl ?_
      refine g_iconst X dX11_sortByBoth_28 (v := (1 : Int32)) (by decide) ?_
      obtain ⟨r_8, σ_9, hf_7, h⟩ := bnd2_some h
      refine g_callVI (AD := A) (As := [.int (1 : Int32)]) X (ZC_ok _ _ _ _ _) (m_X11_refuse hf_7) (cwV 1 X.1.2.2.2.2 gX11_sortByBoth_X11_refuse rfl rfl rfl (by decide +kernel) ⟨Nat.le_of_ble_eq_true rfl, Nat.le_of_ble_eq_true rfl⟩) rfl mm0 (mE_0 cy A σ) rfl rfl (Nat.le_of_ble_eq_true rfl) ⟨by decide, by decide⟩ dX11_sortByBoth_29 ?_
      cases h
      exact g_sub [] rfl K_6
    · have h := iff_ hc_3 h
      refine g_aload_n X dX11_sortByBoth_7 rfl 0 rfl ?_
      refine g_aload_n X dX11_sortByBoth_8 rfl 0 rfl ?_
      refine g_iload_n X dX11_sortByBoth_9 rfl 1 rfl ?_
      refine g_iconst X dX11_sortByBoth_10 (v := (0 : Int32)) (by decide) ?_
      refine g_aload_n X dX11_sortByBoth_11 rfl 0 rfl ?_
      refine g_get X (AD := A) mm0 (mE_0 cy A σ) hin11 rfl 5 (by decide) lk0 (fun _ h9 => h9) rfl dX11_sortByBoth_12 ?_
      refine g_iload_n X dX11_sortByBoth_15 rfl 1 rfl ?_
      obtain ⟨hg_10, h⟩ := grd_some h
      refine g_iald X (AD := A) mm6 (mE_6 cy A σ) 0 rfl hg_10 dX11_sortByBoth_16 ?_
      refine g_iconst X dX11_sortByBoth_17 (v := (3 : Int32)) (by decide) ?_
      obtain ⟨r_12, σ_13, hf_11, h⟩ := bnd2_some h
      refine g_callVI (AD := A) (As := [.int a1, .int (0 : Int32), .int (gr σ 6 a1.toNatClampNeg), .int (3 : Int32)]) X (ZC_ok _ _ _ _ _) (m_X11_sortsPart hf_11) (cwV 4 X.1.2.2.2.2 gX11_sortByBoth_X11_sortsPart rfl rfl rfl (by decide +kernel) ⟨Nat.le_of_ble_eq_true rfl, Nat.le_of_ble_eq_true rfl⟩) rfl mm0 (mE_0 cy A σ) rfl rfl (Nat.le_of_ble_eq_true rfl) ⟨by decide, by decide⟩ dX11_sortByBoth_18 ?_
      obtain ⟨r_15, σ_16, hf_14, h⟩ := bnd2_some h
      refine g_callVI (AD := A) (As := [.int r_12]) X (ZC_ok _ _ _ _ _) (m_X11_told hf_14) (cwV 1 X.1.2.2.2.2 gX11_sortByBoth_X11_told rfl rfl rfl (by decide +kernel) ⟨Nat.le_of_ble_eq_true rfl, Nat.le_of_ble_eq_true rfl⟩) rfl mm0 (mE_0 cy A σ_13) rfl rfl (Nat.le_of_ble_eq_true rfl) ⟨by decide, by decide⟩ dX11_sortByBoth_21 ?_
      refine g_goto X (tgt := 32) dX11_sortByBoth_24 (by decide) ?_
      cases h
      exact g_sub [] rfl K_6
  exact K0
set_option maxHeartbeats 8000000 in
set_option maxRecDepth 100000 in
theorem m_X11_pour {σ : St} {a1 : Int32} {a2 : Int32} {r : Int32} {σ' : St} (h : f_X11_pour a1 a2 σ = some (r, σ')) : mI (ZC aK aO aS aV aT) D (cyT cy) l yX11_pour wsX11_pour ({ frames := 2, cells := 0, slots := 0, locals := 42 } : Room) (mW cy A X9) [.ref (A 0), .int a1, .int a2] σ r σ' := by
  unfold f_X11_pour at h
  refine mI_of (cc := cX11_pour) (maxL := 4) (ret := (some .int)) (by decide) rfl (Nat.le_of_ble_eq_true rfl) (fun p e s m args below meth c B X => ?_)
  have hin11 : ∀ w ∈ wsX110, w ∈ wsX11_pour := by decide +kernel
  have lk0 : Cond.fieldLink RX11 22 "CardcabinetModel" "many" "[I" ∈ wsX11_pour := by decide +kernel
  have lk1 : Cond.fieldLink RX11 16 "CardcabinetModel" "cards" "[I" ∈ wsX11_pour := by decide +kernel
  have K0 : gG p l e ({ frames := 2, cells := 0, slots := 0, locals := 42 } : Room) s m args below meth c D (cyT cy) B 4 (eI D (cyT cy) (mW cy A X9) B below args s r σ') (mW cy A X9 σ) 0 0 0 [(0, .ref (A 0)), (1, .int a1), (2, .int a2)] [] := by
    refine g_iload_n X dX11_pour_0 rfl 1 rfl ?_
    obtain ⟨r_2, hf_1, h⟩ := bnd_some h
    refine g_callSI (AD := A) (As := [.int a1]) X (ZC_ok _ _ _ _ _) (m_X11_isRow hf_1) (va_cwS 1 X.1.2.2.2.2 gX11_pour_X11_isRow rfl rfl rfl (by decide +kernel) ⟨Nat.le_of_ble_eq_true rfl, Nat.le_of_ble_eq_true rfl⟩) rfl rfl (Nat.le_of_ble_eq_true rfl) ⟨by decide, by decide⟩ dX11_pour_1 ?_
    refine g_if_eq X (tgt := 14) dX11_pour_4 (by decide) (fun hc_3 => ?_) (fun hc_3 => ?_)
    · have h := ift hc_3 h
      refine g_aload_n X dX11_pour_14 rfl 0 rfl ?_
      refine g_iconst X dX11_pour_15 (v := (1 : Int32)) (by decide) ?_
      obtain ⟨r_5, σ_6, hf_4, h⟩ := bnd2_some h
      refine g_callVI (AD := A) (As := [.int (1 : Int32)]) X (ZC_ok _ _ _ _ _) (m_X11_refuse hf_4) (cwV 1 X.1.2.2.2.2 gX11_pour_X11_refuse rfl rfl rfl (by decide +kernel) ⟨Nat.le_of_ble_eq_true rfl, Nat.le_of_ble_eq_true rfl⟩) rfl mm0 (mE_0 cy A σ) rfl rfl (Nat.le_of_ble_eq_true rfl) ⟨by decide, by decide⟩ dX11_pour_16 ?_
      cases h
      exact g_iret (Wf := mW cy A X9) X ⟨rfl, rfl⟩ dX11_pour_19
    · have h := iff_ hc_3 h
      refine g_iload_n X dX11_pour_7 rfl 2 rfl ?_
      obtain ⟨r_8, hf_7, h⟩ := bnd_some h
      refine g_callSI (AD := A) (As := [.int a2]) X (ZC_ok _ _ _ _ _) (m_X11_isRow hf_7) (va_cwS 1 X.1.2.2.2.2 gX11_pour_X11_isRow rfl rfl rfl (by decide +kernel) ⟨Nat.le_of_ble_eq_true rfl, Nat.le_of_ble_eq_true rfl⟩) rfl rfl (Nat.le_of_ble_eq_true rfl) ⟨by decide, by decide⟩ dX11_pour_8 ?_
      refine g_if_ne X (tgt := 20) dX11_pour_11 (by decide) (fun hc_9 => ?_) (fun hc_9 => ?_)
      · have h := iff_ hc_9 h
        refine g_iload_n X dX11_pour_20 rfl 1 rfl ?_
        refine g_iload_n X dX11_pour_21 rfl 2 rfl ?_
        refine g_icmp_ne X (tgt := 31) dX11_pour_22 (by decide) (fun hc_10 => ?_) (fun hc_10 => ?_)
        · have h := iff_ hc_10 h
          refine g_aload_n X dX11_pour_31 rfl 0 rfl ?_
          refine g_get X (AD := A) mm0 (mE_0 cy A σ) hin11 rfl 5 (by decide) lk0 (fun _ h9 => h9) rfl dX11_pour_32 ?_
          refine g_iload_n X dX11_pour_35 rfl 1 rfl ?_
          obtain ⟨hg_11, h⟩ := grd_some h
          refine g_iald X (AD := A) mm6 (mE_6 cy A σ) 0 rfl hg_11 dX11_pour_36 ?_
          refine g_aload_n X dX11_pour_37 rfl 0 rfl ?_
          refine g_get X (AD := A) mm0 (mE_0 cy A σ) hin11 rfl 5 (by decide) lk0 (fun _ h9 => h9) rfl dX11_pour_38 ?_
          refine g_iload_n X dX11_pour_41 rfl 2 rfl ?_
          obtain ⟨hg_12, h⟩ := grd_some h
          refine g_iald X (AD := A) mm6 (mE_6 cy A σ) 0 rfl hg_12 dX11_pour_42 ?_
          refine g_iadd X dX11_pour_43 ?_
          refine g_sipush X dX11_pour_44 (v := (800 : Int32)) (by decide) ?_
          refine g_icmp_le X (tgt := 56) dX11_pour_47 (by decide) (fun hc_13 => ?_) (fun hc_13 => ?_)
          · have h := ift hc_13 h
            refine g_iconst X dX11_pour_56 (v := (0 : Int32)) (by decide) ?_
            refine g_istore_n X dX11_pour_57 rfl (by decide) (lv' := [(3, .int (0 : Int32)), (0, .ref (A 0)), (1, .int a1), (2, .int a2)]) rfl ?_
            have L_22 : ∀ (c_14 : Int32) (c_15 : Int32) (n_18 : Nat) (v_16 : Int32) (σ_17 : St) (σ_23 : St), f_X11_pour_L58 c_14 c_15 n_18 v_16 σ_17 = some (σ_23) → gG p l e ({ frames := 2, cells := 0, slots := 0, locals := 42 } : Room) s m args below meth c D (cyT cy) B 4 (eI D (cyT cy) (mW cy A X9) B below args s r σ') (mW cy A X9 σ_23) 0 0 105 [(0, .ref (A 0)), (1, .int c_14), (2, .int c_15)] [] → gG p l e ({ frames := 2, cells := 0, slots := 0, locals := 42 } : Room) s m args below meth c D (cyT cy) B 4 (eI D (cyT cy) (mW cy A X9) B below args s r σ') (mW cy A X9 σ_17) 0 0 58 [(0, .ref (A 0)), (1, .int c_14), (2, .int c_15), (3, .int v_16)] [] := by
              intro c_14 c_15 n_18
              induction n_18 with
              | zero =>
                intro v_16 σ_17 σ_23 h K_20
                rw [f_X11_pour_L58] at h
                cases h
              | succ n_18 ih_19 =>
                intro v_16 σ_17 σ_23 h K_20
                rw [f_X11_pour_L58] at h
                refine g_iload_n X dX11_pour_58 rfl 3 rfl ?_
                refine g_aload_n X dX11_pour_59 rfl 0 rfl ?_
                refine g_get X (AD := A) mm0 (mE_0 cy A σ_17) hin11 rfl 5 (by decide) lk0 (fun _ h9 => h9) rfl dX11_pour_60 ?_
                refine g_iload_n X dX11_pour_63 rfl 1 rfl ?_
                obtain ⟨hg_24, h⟩ := grd_some h
                refine g_iald X (AD := A) mm6 (mE_6 cy A σ_17) 0 rfl hg_24 dX11_pour_64 ?_
                refine g_icmp_ge X (tgt := 105) dX11_pour_65 (by decide) (fun hc_25 => ?_) (fun hc_25 => ?_)
                · have h := ift hc_25 h
                  cases h
                  exact g_sub [0, 1, 2] rfl K_20
                · have h := iff_ hc_25 h
                  refine g_aload_n X dX11_pour_68 rfl 0 rfl ?_
                  refine g_get X (AD := A) mm0 (mE_0 cy A σ_17) hin11 rfl 3 (by decide) lk1 (fun _ h9 => h9) rfl dX11_pour_69 ?_
                  refine g_sipush X dX11_pour_72 (v := (800 : Int32)) (by decide) ?_
                  refine g_iload_n X dX11_pour_75 rfl 2 rfl ?_
                  refine g_imul X dX11_pour_76 ?_
                  refine g_aload_n X dX11_pour_77 rfl 0 rfl ?_
                  refine g_get X (AD := A) mm0 (mE_0 cy A σ_17) hin11 rfl 5 (by decide) lk0 (fun _ h9 => h9) rfl dX11_pour_78 ?_
                  refine g_iload_n X dX11_pour_81 rfl 2 rfl ?_
                  obtain ⟨hg_26, h⟩ := grd_some h
                  refine g_iald X (AD := A) mm6 (mE_6 cy A σ_17) 0 rfl hg_26 dX11_pour_82 ?_
                  refine g_iadd X dX11_pour_83 ?_
                  refine g_iload_n X dX11_pour_84 rfl 3 rfl ?_
                  refine g_iadd X dX11_pour_85 ?_
                  refine g_aload_n X dX11_pour_86 rfl 0 rfl ?_
                  refine g_get X (AD := A) mm0 (mE_0 cy A σ_17) hin11 rfl 3 (by decide) lk1 (fun _ h9 => h9) rfl dX11_pour_87 ?_
                  refine g_sipush X dX11_pour_90 (v := (800 : Int32)) (by decide) ?_
                  refine g_iload_n X dX11_pour_93 rfl 1 rfl ?_
                  refine g_imul X dX11_pour_94 ?_
                  refine g_iload_n X dX11_pour_95 rfl 3 rfl ?_
                  refine g_iadd X dX11_pour_96 ?_
                  obtain ⟨hg_27, h⟩ := grd_some h
                  refine g_iald X (AD := A) mm4 (mE_4 cy A σ_17) 0 rfl hg_27 dX11_pour_97 ?_
                  obtain ⟨hg_28, h⟩ := grd_some h
                  refine g_iast X (AD := A) (σ' := sr σ_17 4 (upd (gr σ_17 4) ((((800 : Int32) * c_15) + (gr σ_17 6 c_15.toNatClampNeg)) + v_16).toNatClampNeg (gr σ_17 4 (((800 : Int32) * c_14) + v_16).toNatClampNeg))) mm4 (mE_4 cy A σ_17) 0 rfl hg_28 (sm_a4 cy A σ_17 (upd (gr σ_17 4) ((((800 : Int32) * c_15) + (gr σ_17 6 c_15.toNatClampNeg)) + v_16).toNatClampNeg (gr σ_17 4 (((800 : Int32) * c_14) + v_16).toNatClampNeg))) dX11_pour_98 ?_
                  obtain ⟨σ_29, e_30, h⟩ := bnd_some h
                  have e_30 := Option.some.inj e_30
                  rw [e_30]
                  refine g_iinc X dX11_pour_99 3 rfl (v := v_16 + (1 : Int32)) rfl (by decide) (lv' := [(3, .int (v_16 + (1 : Int32))), (0, .ref (A 0)), (1, .int c_14), (2, .int c_15)]) rfl ?_
                  refine g_goto X (tgt := 58) dX11_pour_102 (by decide) ?_
                  exact g_sub [1, 2, 3, 0] rfl (ih_19 _ _ _ h K_20)
            obtain ⟨σ_23, hl_31, h⟩ := bnd_some h
            refine g_sub [1, 2, 3, 0] rfl (L_22 a1 a2 FU (0 : Int32) σ σ_23 hl_31 ?_)
            refine g_aload_n X dX11_pour_105 rfl 0 rfl ?_
            refine g_get X (AD := A) mm0 (mE_0 cy A σ_23) hin11 rfl 5 (by decide) lk0 (fun _ h9 => h9) rfl dX11_pour_106 ?_
            refine g_iload_n X dX11_pour_109 rfl 2 rfl ?_
            refine g_dup2 X dX11_pour_110 rfl rfl ?_
            obtain ⟨hg_32, h⟩ := grd_some h
            refine g_iald X (AD := A) mm6 (mE_6 cy A σ_23) 0 rfl hg_32 dX11_pour_111 ?_
            refine g_aload_n X dX11_pour_112 rfl 0 rfl ?_
            refine g_get X (AD := A) mm0 (mE_0 cy A σ_23) hin11 rfl 5 (by decide) lk0 (fun _ h9 => h9) rfl dX11_pour_113 ?_
            refine g_iload_n X dX11_pour_116 rfl 1 rfl ?_
            obtain ⟨hg_33, h⟩ := grd_some h
            refine g_iald X (AD := A) mm6 (mE_6 cy A σ_23) 0 rfl hg_33 dX11_pour_117 ?_
            refine g_iadd X dX11_pour_118 ?_
            obtain ⟨hg_34, h⟩ := grd_some h
            refine g_iast X (AD := A) (σ' := sr σ_23 6 (upd (gr σ_23 6) a2.toNatClampNeg ((gr σ_23 6 a2.toNatClampNeg) + (gr σ_23 6 a1.toNatClampNeg)))) mm6 (mE_6 cy A σ_23) 0 rfl hg_34 (sm_a6 cy A σ_23 (upd (gr σ_23 6) a2.toNatClampNeg ((gr σ_23 6 a2.toNatClampNeg) + (gr σ_23 6 a1.toNatClampNeg)))) dX11_pour_119 ?_
            obtain ⟨σ_35, e_36, h⟩ := bnd_some h
            have e_36 := Option.some.inj e_36
            rw [e_36]
            refine g_aload_n X dX11_pour_120 rfl 0 rfl ?_
            refine g_get X (AD := A) mm0 (mE_0 cy A σ_35) hin11 rfl 5 (by decide) lk0 (fun _ h9 => h9) rfl dX11_pour_121 ?_
            refine g_iload_n X dX11_pour_124 rfl 1 rfl ?_
            refine g_iconst X dX11_pour_125 (v := (0 : Int32)) (by decide) ?_
            obtain ⟨hg_37, h⟩ := grd_some h
            refine g_iast X (AD := A) (σ' := sr σ_35 6 (upd (gr σ_35 6) a1.toNatClampNeg (0 : Int32))) mm6 (mE_6 cy A σ_35) 0 rfl hg_37 (sm_a6 cy A σ_35 (upd (gr σ_35 6) a1.toNatClampNeg (0 : Int32))) dX11_pour_126 ?_
            obtain ⟨σ_38, e_39, h⟩ := bnd_some h
            have e_39 := Option.some.inj e_39
            rw [e_39]
            refine g_aload_n X dX11_pour_127 rfl 0 rfl ?_
            refine g_aload_n X dX11_pour_128 rfl 0 rfl ?_
            refine g_get X (AD := A) mm0 (mE_0 cy A σ_38) hin11 rfl 5 (by decide) lk0 (fun _ h9 => h9) rfl dX11_pour_129 ?_
            refine g_iload_n X dX11_pour_132 rfl 2 rfl ?_
            obtain ⟨hg_40, h⟩ := grd_some h
            refine g_iald X (AD := A) mm6 (mE_6 cy A σ_38) 0 rfl hg_40 dX11_pour_133 ?_
            obtain ⟨r_42, σ_43, hf_41, h⟩ := bnd2_some h
            refine g_callVI (AD := A) (As := [.int (gr σ_38 6 a2.toNatClampNeg)]) X (ZC_ok _ _ _ _ _) (m_X11_told hf_41) (cwV 1 X.1.2.2.2.2 gX11_pour_X11_told rfl rfl rfl (by decide +kernel) ⟨Nat.le_of_ble_eq_true rfl, Nat.le_of_ble_eq_true rfl⟩) rfl mm0 (mE_0 cy A σ_38) rfl rfl (Nat.le_of_ble_eq_true rfl) ⟨by decide, by decide⟩ dX11_pour_134 ?_
            cases h
            exact g_iret (Wf := mW cy A X9) X ⟨rfl, rfl⟩ dX11_pour_137
          · have h := iff_ hc_13 h
            refine g_aload_n X dX11_pour_50 rfl 0 rfl ?_
            refine g_iconst X dX11_pour_51 (v := (3 : Int32)) (by decide) ?_
            obtain ⟨r_45, σ_46, hf_44, h⟩ := bnd2_some h
            refine g_callVI (AD := A) (As := [.int (3 : Int32)]) X (ZC_ok _ _ _ _ _) (m_X11_refuse hf_44) (cwV 1 X.1.2.2.2.2 gX11_pour_X11_refuse rfl rfl rfl (by decide +kernel) ⟨Nat.le_of_ble_eq_true rfl, Nat.le_of_ble_eq_true rfl⟩) rfl mm0 (mE_0 cy A σ) rfl rfl (Nat.le_of_ble_eq_true rfl) ⟨by decide, by decide⟩ dX11_pour_52 ?_
            cases h
            exact g_iret (Wf := mW cy A X9) X ⟨rfl, rfl⟩ dX11_pour_55
        · have h := ift hc_10 h
          refine g_aload_n X dX11_pour_25 rfl 0 rfl ?_
          refine g_iconst X dX11_pour_26 (v := (2 : Int32)) (by decide) ?_
          obtain ⟨r_48, σ_49, hf_47, h⟩ := bnd2_some h
          refine g_callVI (AD := A) (As := [.int (2 : Int32)]) X (ZC_ok _ _ _ _ _) (m_X11_refuse hf_47) (cwV 1 X.1.2.2.2.2 gX11_pour_X11_refuse rfl rfl rfl (by decide +kernel) ⟨Nat.le_of_ble_eq_true rfl, Nat.le_of_ble_eq_true rfl⟩) rfl mm0 (mE_0 cy A σ) rfl rfl (Nat.le_of_ble_eq_true rfl) ⟨by decide, by decide⟩ dX11_pour_27 ?_
          cases h
          exact g_iret (Wf := mW cy A X9) X ⟨rfl, rfl⟩ dX11_pour_30
      · have h := ift hc_9 h
        refine g_aload_n X dX11_pour_14 rfl 0 rfl ?_
        refine g_iconst X dX11_pour_15 (v := (1 : Int32)) (by decide) ?_
        obtain ⟨r_51, σ_52, hf_50, h⟩ := bnd2_some h
        refine g_callVI (AD := A) (As := [.int (1 : Int32)]) X (ZC_ok _ _ _ _ _) (m_X11_refuse hf_50) (cwV 1 X.1.2.2.2.2 gX11_pour_X11_refuse rfl rfl rfl (by decide +kernel) ⟨Nat.le_of_ble_eq_true rfl, Nat.le_of_ble_eq_true rfl⟩) rfl mm0 (mE_0 cy A σ) rfl rfl (Nat.le_of_ble_eq_true rfl) ⟨by decide, by decide⟩ dX11_pour_16 ?_
        cases h
        exact g_iret (Wf := mW cy A X9) X ⟨rfl, rfl⟩ dX11_pour_19
  exact K0
set_option maxHeartbeats 8000000 in
set_option maxRecDepth 100000 in
theorem m_X11_deal {σ : St} {a1 : Int32} {a2 : Int32} {r : Int32} {σ' : St} (h : f_X11_deal a1 a2 σ = some (r, σ')) : mI (ZC aK aO aS aV aT) D (cyT cy) l yX11_deal wsX11_deal ({ frames := 2, cells := 0, slots := 0, locals := 42 } : Room) (mW cy A X9) [.ref (A 0), .int a1, .int a2] σ r σ' := by
  unfold f_X11_deal at h
  refine mI_of (cc := cX11_deal) (maxL := 5) (ret := (some .int)) (by decide) rfl (Nat.le_of_ble_eq_true rfl) (fun p e s m args below meth c B X => ?_)
  have hin11 : ∀ w ∈ wsX110, w ∈ wsX11_deal := by decide +kernel
  have lk0 : Cond.fieldLink RX11 22 "CardcabinetModel" "many" "[I" ∈ wsX11_deal := by decide +kernel
  have lk1 : Cond.fieldLink RX11 16 "CardcabinetModel" "cards" "[I" ∈ wsX11_deal := by decide +kernel
  have K0 : gG p l e ({ frames := 2, cells := 0, slots := 0, locals := 42 } : Room) s m args below meth c D (cyT cy) B 5 (eI D (cyT cy) (mW cy A X9) B below args s r σ') (mW cy A X9 σ) 0 0 0 [(0, .ref (A 0)), (1, .int a1), (2, .int a2)] [] := by
    refine g_iload_n X dX11_deal_0 rfl 1 rfl ?_
    obtain ⟨r_2, hf_1, h⟩ := bnd_some h
    refine g_callSI (AD := A) (As := [.int a1]) X (ZC_ok _ _ _ _ _) (m_X11_isRow hf_1) (va_cwS 1 X.1.2.2.2.2 gX11_deal_X11_isRow rfl rfl rfl (by decide +kernel) ⟨Nat.le_of_ble_eq_true rfl, Nat.le_of_ble_eq_true rfl⟩) rfl rfl (Nat.le_of_ble_eq_true rfl) ⟨by decide, by decide⟩ dX11_deal_1 ?_
    refine g_if_eq X (tgt := 14) dX11_deal_4 (by decide) (fun hc_3 => ?_) (fun hc_3 => ?_)
    · have h := ift hc_3 h
      refine g_aload_n X dX11_deal_14 rfl 0 rfl ?_
      refine g_iconst X dX11_deal_15 (v := (1 : Int32)) (by decide) ?_
      obtain ⟨r_5, σ_6, hf_4, h⟩ := bnd2_some h
      refine g_callVI (AD := A) (As := [.int (1 : Int32)]) X (ZC_ok _ _ _ _ _) (m_X11_refuse hf_4) (cwV 1 X.1.2.2.2.2 gX11_deal_X11_refuse rfl rfl rfl (by decide +kernel) ⟨Nat.le_of_ble_eq_true rfl, Nat.le_of_ble_eq_true rfl⟩) rfl mm0 (mE_0 cy A σ) rfl rfl (Nat.le_of_ble_eq_true rfl) ⟨by decide, by decide⟩ dX11_deal_16 ?_
      cases h
      exact g_iret (Wf := mW cy A X9) X ⟨rfl, rfl⟩ dX11_deal_19
    · have h := iff_ hc_3 h
      refine g_iload_n X dX11_deal_7 rfl 2 rfl ?_
      obtain ⟨r_8, hf_7, h⟩ := bnd_some h
      refine g_callSI (AD := A) (As := [.int a2]) X (ZC_ok _ _ _ _ _) (m_X11_isRow hf_7) (va_cwS 1 X.1.2.2.2.2 gX11_deal_X11_isRow rfl rfl rfl (by decide +kernel) ⟨Nat.le_of_ble_eq_true rfl, Nat.le_of_ble_eq_true rfl⟩) rfl rfl (Nat.le_of_ble_eq_true rfl) ⟨by decide, by decide⟩ dX11_deal_8 ?_
      refine g_if_ne X (tgt := 20) dX11_deal_11 (by decide) (fun hc_9 => ?_) (fun hc_9 => ?_)
      · have h := iff_ hc_9 h
        refine g_iload_n X dX11_deal_20 rfl 1 rfl ?_
        refine g_iload_n X dX11_deal_21 rfl 2 rfl ?_
        refine g_icmp_ne X (tgt := 31) dX11_deal_22 (by decide) (fun hc_10 => ?_) (fun hc_10 => ?_)
        · have h := iff_ hc_10 h
          refine g_aload_n X dX11_deal_31 rfl 0 rfl ?_
          refine g_get X (AD := A) mm0 (mE_0 cy A σ) hin11 rfl 5 (by decide) lk0 (fun _ h9 => h9) rfl dX11_deal_32 ?_
          refine g_iload_n X dX11_deal_35 rfl 1 rfl ?_
          obtain ⟨hg_11, h⟩ := grd_some h
          refine g_iald X (AD := A) mm6 (mE_6 cy A σ) 0 rfl hg_11 dX11_deal_36 ?_
          refine g_iconst X dX11_deal_37 (v := (2 : Int32)) (by decide) ?_
          refine g_idiv X dX11_deal_38 (by decide) ?_
          refine g_istore_n X dX11_deal_39 rfl (by decide) (lv' := [(3, .int ((gr σ 6 a1.toNatClampNeg) / (2 : Int32))), (0, .ref (A 0)), (1, .int a1), (2, .int a2)]) rfl ?_
          refine g_aload_n X dX11_deal_40 rfl 1 rfl ?_
          refine g_get X (AD := A) mm0 (mE_0 cy A σ) hin11 rfl 5 (by decide) lk0 (fun _ h9 => h9) rfl dX11_deal_41 ?_
          refine g_iload_n X dX11_deal_44 rfl 3 rfl ?_
          obtain ⟨hg_12, h⟩ := grd_some h
          refine g_iald X (AD := A) mm6 (mE_6 cy A σ) 0 rfl hg_12 dX11_deal_45 ?_
          refine g_iload_n X dX11_deal_46 rfl 0 rfl ?_
          refine g_iadd X dX11_deal_47 ?_
          refine g_sipush X dX11_deal_48 (v := (800 : Int32)) (by decide) ?_
          refine g_icmp_le X (tgt := 60) dX11_deal_51 (by decide) (fun hc_13 => ?_) (fun hc_13 => ?_)
          · have h := ift hc_13 h
            refine g_iconst X dX11_deal_60 (v := (0 : Int32)) (by decide) ?_
            refine g_istore X dX11_deal_61 (by decide) (lv' := [(4, .int (0 : Int32)), (3, .int ((gr σ 6 a1.toNatClampNeg) / (2 : Int32))), (0, .ref (A 0)), (1, .int a1), (2, .int a2)]) rfl ?_
            have L_23 : ∀ (c_14 : Int32) (c_15 : Int32) (c_16 : Int32) (n_19 : Nat) (v_17 : Int32) (σ_18 : St) (σ_24 : St), f_X11_deal_L63 c_14 c_15 n_19 v_17 σ_18 = some (σ_24) → gG p l e ({ frames := 2, cells := 0, slots := 0, locals := 42 } : Room) s m args below meth c D (cyT cy) B 5 (eI D (cyT cy) (mW cy A X9) B below args s r σ') (mW cy A X9 σ_24) 0 0 159 [(0, .ref (A 0)), (1, .int c_14), (3, .int c_16)] [] → gG p l e ({ frames := 2, cells := 0, slots := 0, locals := 42 } : Room) s m args below meth c D (cyT cy) B 5 (eI D (cyT cy) (mW cy A X9) B below args s r σ') (mW cy A X9 σ_18) 0 0 63 [(0, .ref (A 0)), (1, .int c_14), (2, .int c_15), (3, .int c_16), (4, .int v_17)] [] := by
              intro c_14 c_15 c_16 n_19
              induction n_19 with
              | zero =>
                intro v_17 σ_18 σ_24 h K_21
                rw [f_X11_deal_L63] at h
                cases h
              | succ n_19 ih_20 =>
                intro v_17 σ_18 σ_24 h K_21
                rw [f_X11_deal_L63] at h
                refine g_iload X dX11_deal_63 4 rfl ?_
                refine g_aload_n X dX11_deal_65 rfl 0 rfl ?_
                refine g_get X (AD := A) mm0 (mE_0 cy A σ_18) hin11 rfl 5 (by decide) lk0 (fun _ h9 => h9) rfl dX11_deal_66 ?_
                refine g_iload_n X dX11_deal_69 rfl 1 rfl ?_
                obtain ⟨hg_25, h⟩ := grd_some h
                refine g_iald X (AD := A) mm6 (mE_6 cy A σ_18) 0 rfl hg_25 dX11_deal_70 ?_
                refine g_icmp_ge X (tgt := 159) dX11_deal_71 (by decide) (fun hc_26 => ?_) (fun hc_26 => ?_)
                · have h := ift hc_26 h
                  cases h
                  exact g_sub [0, 1, 3] rfl K_21
                · have h := iff_ hc_26 h
                  refine g_iload X dX11_deal_74 4 rfl ?_
                  refine g_iconst X dX11_deal_76 (v := (2 : Int32)) (by decide) ?_
                  refine g_irem X dX11_deal_77 (by decide) ?_
                  refine g_iconst X dX11_deal_78 (v := (1 : Int32)) (by decide) ?_
                  obtain ⟨σ_28, hj_43, h⟩ := bnd_some h
                  have K_29 : gG p l e ({ frames := 2, cells := 0, slots := 0, locals := 42 } : Room) s m args below meth c D (cyT cy) B 5 (eI D (cyT cy) (mW cy A X9) B below args s r σ') (mW cy A X9 σ_28) 0 0 153 [(0, .ref (A 0)), (1, .int c_14), (2, .int c_15), (3, .int c_16), (4, .int v_17)] [] := by
                    refine g_iinc X dX11_deal_153 4 rfl (v := v_17 + (1 : Int32)) rfl (by decide) (lv' := [(4, .int (v_17 + (1 : Int32))), (0, .ref (A 0)), (1, .int c_14), (2, .int c_15), (3, .int c_16)]) rfl ?_
                    refine g_goto X (tgt := 63) dX11_deal_156 (by decide) ?_
                    exact g_sub [1, 2, 3, 4, 0] rfl (ih_20 _ _ _ h K_21)
                  have h := hj_43
                  clear hj_43
                  refine g_icmp_ne X (tgt := 125) dX11_deal_79 (by decide) (fun hc_27 => ?_) (fun hc_27 => ?_)
                  · have h := iff_ hc_27 h
                    refine g_aload_n X dX11_deal_125 rfl 0 rfl ?_
                    refine g_get X (AD := A) mm0 (mE_0 cy A σ_18) hin11 rfl 3 (by decide) lk1 (fun _ h9 => h9) rfl dX11_deal_126 ?_
                    refine g_sipush X dX11_deal_129 (v := (800 : Int32)) (by decide) ?_
                    refine g_iload_n X dX11_deal_132 rfl 1 rfl ?_
                    refine g_imul X dX11_deal_133 ?_
                    refine g_iload X dX11_deal_134 4 rfl ?_
                    refine g_iconst X dX11_deal_136 (v := (2 : Int32)) (by decide) ?_
                    refine g_idiv X dX11_deal_137 (by decide) ?_
                    refine g_iadd X dX11_deal_138 ?_
                    refine g_aload_n X dX11_deal_139 rfl 0 rfl ?_
                    refine g_get X (AD := A) mm0 (mE_0 cy A σ_18) hin11 rfl 3 (by decide) lk1 (fun _ h9 => h9) rfl dX11_deal_140 ?_
                    refine g_sipush X dX11_deal_143 (v := (800 : Int32)) (by decide) ?_
                    refine g_iload_n X dX11_deal_146 rfl 1 rfl ?_
                    refine g_imul X dX11_deal_147 ?_
                    refine g_iload X dX11_deal_148 4 rfl ?_
                    refine g_iadd X dX11_deal_150 ?_
                    obtain ⟨hg_30, h⟩ := grd_some h
                    refine g_iald X (AD := A) mm4 (mE_4 cy A σ_18) 0 rfl hg_30 dX11_deal_151 ?_
                    obtain ⟨hg_31, h⟩ := grd_some h
                    refine g_iast X (AD := A) (σ' := sr σ_18 4 (upd (gr σ_18 4) (((800 : Int32) * c_14) + (v_17 / (2 : Int32))).toNatClampNeg (gr σ_18 4 (((800 : Int32) * c_14) + v_17).toNatClampNeg))) mm4 (mE_4 cy A σ_18) 0 rfl hg_31 (sm_a4 cy A σ_18 (upd (gr σ_18 4) (((800 : Int32) * c_14) + (v_17 / (2 : Int32))).toNatClampNeg (gr σ_18 4 (((800 : Int32) * c_14) + v_17).toNatClampNeg))) dX11_deal_152 ?_
                    obtain ⟨σ_32, e_33, h⟩ := bnd_some h
                    have e_33 := Option.some.inj e_33
                    rw [e_33]
                    cases h
                    exact g_sub [0, 1, 2, 3, 4] rfl K_29
                  · have h := ift hc_27 h
                    refine g_aload_n X dX11_deal_82 rfl 0 rfl ?_
                    refine g_get X (AD := A) mm0 (mE_0 cy A σ_18) hin11 rfl 3 (by decide) lk1 (fun _ h9 => h9) rfl dX11_deal_83 ?_
                    refine g_sipush X dX11_deal_86 (v := (800 : Int32)) (by decide) ?_
                    refine g_iload_n X dX11_deal_89 rfl 2 rfl ?_
                    refine g_imul X dX11_deal_90 ?_
                    refine g_aload_n X dX11_deal_91 rfl 0 rfl ?_
                    refine g_get X (AD := A) mm0 (mE_0 cy A σ_18) hin11 rfl 5 (by decide) lk0 (fun _ h9 => h9) rfl dX11_deal_92 ?_
                    refine g_iload_n X dX11_deal_95 rfl 2 rfl ?_
                    obtain ⟨hg_34, h⟩ := grd_some h
                    refine g_iald X (AD := A) mm6 (mE_6 cy A σ_18) 0 rfl hg_34 dX11_deal_96 ?_
                    refine g_iadd X dX11_deal_97 ?_
                    refine g_aload_n X dX11_deal_98 rfl 0 rfl ?_
                    refine g_get X (AD := A) mm0 (mE_0 cy A σ_18) hin11 rfl 3 (by decide) lk1 (fun _ h9 => h9) rfl dX11_deal_99 ?_
                    refine g_sipush X dX11_deal_102 (v := (800 : Int32)) (by decide) ?_
                    refine g_iload_n X dX11_deal_105 rfl 1 rfl ?_
                    refine g_imul X dX11_deal_106 ?_
                    refine g_iload X dX11_deal_107 4 rfl ?_
                    refine g_iadd X dX11_deal_109 ?_
                    obtain ⟨hg_35, h⟩ := grd_some h
                    refine g_iald X (AD := A) mm4 (mE_4 cy A σ_18) 0 rfl hg_35 dX11_deal_110 ?_
                    obtain ⟨hg_36, h⟩ := grd_some h
                    refine g_iast X (AD := A) (σ' := sr σ_18 4 (upd (gr σ_18 4) (((800 : Int32) * c_15) + (gr σ_18 6 c_15.toNatClampNeg)).toNatClampNeg (gr σ_18 4 (((800 : Int32) * c_14) + v_17).toNatClampNeg))) mm4 (mE_4 cy A σ_18) 0 rfl hg_36 (sm_a4 cy A σ_18 (upd (gr σ_18 4) (((800 : Int32) * c_15) + (gr σ_18 6 c_15.toNatClampNeg)).toNatClampNeg (gr σ_18 4 (((800 : Int32) * c_14) + v_17).toNatClampNeg))) dX11_deal_111 ?_
                    obtain ⟨σ_37, e_38, h⟩ := bnd_some h
                    have e_38 := Option.some.inj e_38
                    rw [e_38]
                    refine g_aload_n X dX11_deal_112 rfl 0 rfl ?_
                    refine g_get X (AD := A) mm0 (mE_0 cy A σ_37) hin11 rfl 5 (by decide) lk0 (fun _ h9 => h9) rfl dX11_deal_113 ?_
                    refine g_iload_n X dX11_deal_116 rfl 2 rfl ?_
                    refine g_dup2 X dX11_deal_117 rfl rfl ?_
                    obtain ⟨hg_39, h⟩ := grd_some h
                    refine g_iald X (AD := A) mm6 (mE_6 cy A σ_37) 0 rfl hg_39 dX11_deal_118 ?_
                    refine g_iconst X dX11_deal_119 (v := (1 : Int32)) (by decide) ?_
                    refine g_iadd X dX11_deal_120 ?_
                    obtain ⟨hg_40, h⟩ := grd_some h
                    refine g_iast X (AD := A) (σ' := sr σ_37 6 (upd (gr σ_37 6) c_15.toNatClampNeg ((gr σ_37 6 c_15.toNatClampNeg) + (1 : Int32)))) mm6 (mE_6 cy A σ_37) 0 rfl hg_40 (sm_a6 cy A σ_37 (upd (gr σ_37 6) c_15.toNatClampNeg ((gr σ_37 6 c_15.toNatClampNeg) + (1 : Int32)))) dX11_deal_121 ?_
                    obtain ⟨σ_41, e_42, h⟩ := bnd_some h
                    have e_42 := Option.some.inj e_42
                    rw [e_42]
                    refine g_goto X (tgt := 153) dX11_deal_122 (by decide) ?_
                    cases h
                    exact g_sub [0, 1, 2, 3, 4] rfl K_29
            obtain ⟨σ_24, hl_44, h⟩ := bnd_some h
            refine g_sub [2, 3, 4, 1, 0] rfl (L_23 a1 a2 ((gr σ 6 a1.toNatClampNeg) / (2 : Int32)) FU (0 : Int32) σ σ_24 hl_44 ?_)
            refine g_aload_n X dX11_deal_159 rfl 0 rfl ?_
            refine g_get X (AD := A) mm0 (mE_0 cy A σ_24) hin11 rfl 5 (by decide) lk0 (fun _ h9 => h9) rfl dX11_deal_160 ?_
            refine g_iload_n X dX11_deal_163 rfl 1 rfl ?_
            refine g_dup2 X dX11_deal_164 rfl rfl ?_
            obtain ⟨hg_45, h⟩ := grd_some h
            refine g_iald X (AD := A) mm6 (mE_6 cy A σ_24) 0 rfl hg_45 dX11_deal_165 ?_
            refine g_iload_n X dX11_deal_166 rfl 2 rfl ?_
            refine g_isub X dX11_deal_167 ?_
            obtain ⟨hg_46, h⟩ := grd_some h
            refine g_iast X (AD := A) (σ' := sr σ_24 6 (upd (gr σ_24 6) a1.toNatClampNeg ((gr σ_24 6 a1.toNatClampNeg) - ((gr σ 6 a1.toNatClampNeg) / (2 : Int32))))) mm6 (mE_6 cy A σ_24) 0 rfl hg_46 (sm_a6 cy A σ_24 (upd (gr σ_24 6) a1.toNatClampNeg ((gr σ_24 6 a1.toNatClampNeg) - ((gr σ 6 a1.toNatClampNeg) / (2 : Int32))))) dX11_deal_168 ?_
            obtain ⟨σ_47, e_48, h⟩ := bnd_some h
            have e_48 := Option.some.inj e_48
            rw [e_48]
            refine g_aload_n X dX11_deal_169 rfl 0 rfl ?_
            refine g_iload_n X dX11_deal_170 rfl 2 rfl ?_
            obtain ⟨r_50, σ_51, hf_49, h⟩ := bnd2_some h
            refine g_callVI (AD := A) (As := [.int ((gr σ 6 a1.toNatClampNeg) / (2 : Int32))]) X (ZC_ok _ _ _ _ _) (m_X11_told hf_49) (cwV 1 X.1.2.2.2.2 gX11_deal_X11_told rfl rfl rfl (by decide +kernel) ⟨Nat.le_of_ble_eq_true rfl, Nat.le_of_ble_eq_true rfl⟩) rfl mm0 (mE_0 cy A σ_47) rfl rfl (Nat.le_of_ble_eq_true rfl) ⟨by decide, by decide⟩ dX11_deal_171 ?_
            cases h
            exact g_iret (Wf := mW cy A X9) X ⟨rfl, rfl⟩ dX11_deal_174
          · have h := iff_ hc_13 h
            refine g_aload_n X dX11_deal_54 rfl 1 rfl ?_
            refine g_iconst X dX11_deal_55 (v := (3 : Int32)) (by decide) ?_
            obtain ⟨r_53, σ_54, hf_52, h⟩ := bnd2_some h
            refine g_callVI (AD := A) (As := [.int (3 : Int32)]) X (ZC_ok _ _ _ _ _) (m_X11_refuse hf_52) (cwV 1 X.1.2.2.2.2 gX11_deal_X11_refuse rfl rfl rfl (by decide +kernel) ⟨Nat.le_of_ble_eq_true rfl, Nat.le_of_ble_eq_true rfl⟩) rfl mm0 (mE_0 cy A σ) rfl rfl (Nat.le_of_ble_eq_true rfl) ⟨by decide, by decide⟩ dX11_deal_56 ?_
            cases h
            exact g_iret (Wf := mW cy A X9) X ⟨rfl, rfl⟩ dX11_deal_59
        · have h := ift hc_10 h
          refine g_aload_n X dX11_deal_25 rfl 0 rfl ?_
          refine g_iconst X dX11_deal_26 (v := (2 : Int32)) (by decide) ?_
          obtain ⟨r_56, σ_57, hf_55, h⟩ := bnd2_some h
          refine g_callVI (AD := A) (As := [.int (2 : Int32)]) X (ZC_ok _ _ _ _ _) (m_X11_refuse hf_55) (cwV 1 X.1.2.2.2.2 gX11_deal_X11_refuse rfl rfl rfl (by decide +kernel) ⟨Nat.le_of_ble_eq_true rfl, Nat.le_of_ble_eq_true rfl⟩) rfl mm0 (mE_0 cy A σ) rfl rfl (Nat.le_of_ble_eq_true rfl) ⟨by decide, by decide⟩ dX11_deal_27 ?_
          cases h
          exact g_iret (Wf := mW cy A X9) X ⟨rfl, rfl⟩ dX11_deal_30
      · have h := ift hc_9 h
        refine g_aload_n X dX11_deal_14 rfl 0 rfl ?_
        refine g_iconst X dX11_deal_15 (v := (1 : Int32)) (by decide) ?_
        obtain ⟨r_59, σ_60, hf_58, h⟩ := bnd2_some h
        refine g_callVI (AD := A) (As := [.int (1 : Int32)]) X (ZC_ok _ _ _ _ _) (m_X11_refuse hf_58) (cwV 1 X.1.2.2.2.2 gX11_deal_X11_refuse rfl rfl rfl (by decide +kernel) ⟨Nat.le_of_ble_eq_true rfl, Nat.le_of_ble_eq_true rfl⟩) rfl mm0 (mE_0 cy A σ) rfl rfl (Nat.le_of_ble_eq_true rfl) ⟨by decide, by decide⟩ dX11_deal_16 ?_
        cases h
        exact g_iret (Wf := mW cy A X9) X ⟨rfl, rfl⟩ dX11_deal_19
  exact K0
end MV
