section MV
variable {D : va_G} {cy : Nat → ClassId} {A aK aO aS aV aT : Nat → Nat} {l : Launch} {X9 : va_W}
set_option maxHeartbeats 8000000 in
set_option maxRecDepth 100000 in
theorem m_X11_compare {σ : St} {a1 : Int32} {a2 : Int32} {r : Int32} {σ' : St} (h : f_X11_compare a1 a2 σ = some (r, σ')) : mI (ZC aK aO aS aV aT) D (cyT cy) l yX11_compare wsX11_compare ({ frames := 2, cells := 0, slots := 0, locals := 42 } : Room) (mW cy A X9) [.ref (A 0), .int a1, .int a2] σ r σ' := by
  unfold f_X11_compare at h
  refine mI_of (cc := cX11_compare) (maxL := 4) (ret := (some .int)) (by decide) rfl (Nat.le_of_ble_eq_true rfl) (fun p e s m args below meth c B X => ?_)
  have hin11 : ∀ w ∈ wsX110, w ∈ wsX11_compare := by decide +kernel
  have lk0 : Cond.fieldLink RX11 22 "CardcabinetModel" "many" "[I" ∈ wsX11_compare := by decide +kernel
  have K0 : gG p l e ({ frames := 2, cells := 0, slots := 0, locals := 42 } : Room) s m args below meth c D (cyT cy) B 4 (eI D (cyT cy) (mW cy A X9) B below args s r σ') (mW cy A X9 σ) 0 0 0 [(0, .ref (A 0)), (1, .int a1), (2, .int a2)] [] := by
    refine g_iload_n X dX11_compare_0 rfl 1 rfl ?_
    obtain ⟨r_2, hf_1, h⟩ := bnd_some h
    refine g_callSI (AD := A) (As := [.int a1]) X (ZC_ok _ _ _ _ _) (m_X11_isRow hf_1) (va_cwS 1 X.1.2.2.2.2 gX11_compare_X11_isRow rfl rfl rfl (by decide +kernel) ⟨Nat.le_of_ble_eq_true rfl, Nat.le_of_ble_eq_true rfl⟩) rfl rfl (Nat.le_of_ble_eq_true rfl) ⟨by decide, by decide⟩ dX11_compare_1 ?_
    refine g_if_eq X (tgt := 14) dX11_compare_4 (by decide) (fun hc_3 => ?_) (fun hc_3 => ?_)
    · have h := ift hc_3 h
      refine g_aload_n X dX11_compare_14 rfl 0 rfl ?_
      refine g_iconst X dX11_compare_15 (v := (1 : Int32)) (by decide) ?_
      obtain ⟨r_5, σ_6, hf_4, h⟩ := bnd2_some h
      refine g_callVI (AD := A) (As := [.int (1 : Int32)]) X (ZC_ok _ _ _ _ _) (m_X11_refuse hf_4) (cwV 1 X.1.2.2.2.2 gX11_compare_X11_refuse rfl rfl rfl (by decide +kernel) ⟨Nat.le_of_ble_eq_true rfl, Nat.le_of_ble_eq_true rfl⟩) rfl mm0 (mE_0 cy A σ) rfl rfl (Nat.le_of_ble_eq_true rfl) ⟨by decide, by decide⟩ dX11_compare_16 ?_
      cases h
      exact g_iret (Wf := mW cy A X9) X ⟨rfl, rfl⟩ dX11_compare_19
    · have h := iff_ hc_3 h
      refine g_iload_n X dX11_compare_7 rfl 2 rfl ?_
      obtain ⟨r_8, hf_7, h⟩ := bnd_some h
      refine g_callSI (AD := A) (As := [.int a2]) X (ZC_ok _ _ _ _ _) (m_X11_isRow hf_7) (va_cwS 1 X.1.2.2.2.2 gX11_compare_X11_isRow rfl rfl rfl (by decide +kernel) ⟨Nat.le_of_ble_eq_true rfl, Nat.le_of_ble_eq_true rfl⟩) rfl rfl (Nat.le_of_ble_eq_true rfl) ⟨by decide, by decide⟩ dX11_compare_8 ?_
      refine g_if_ne X (tgt := 20) dX11_compare_11 (by decide) (fun hc_9 => ?_) (fun hc_9 => ?_)
      · have h := iff_ hc_9 h
        refine g_iconst X dX11_compare_20 (v := (0 : Int32)) (by decide) ?_
        refine g_istore_n X dX11_compare_21 rfl (by decide) (lv' := [(3, .int (0 : Int32)), (0, .ref (A 0)), (1, .int a1), (2, .int a2)]) rfl ?_
        have L_18 : ∀ (c_10 : Int32) (c_11 : Int32) (σ_13 : St) (n_14 : Nat) (v_12 : Int32) (o_41 : (Int32 × St) ⊕ (Unit)), f_X11_compare_L22 c_10 c_11 σ_13 n_14 v_12 = some o_41 → (∀ (u_19 : Unit), o_41 = .inr (u_19) → gG p l e ({ frames := 2, cells := 0, slots := 0, locals := 42 } : Room) s m args below meth c D (cyT cy) B 4 (eI D (cyT cy) (mW cy A X9) B below args s r σ') (mW cy A X9 σ_13) 0 0 87 [(0, .ref (A 0)), (1, .int c_10), (2, .int c_11)] []) → (∀ r8, o_41 = .inl r8 → r8 = (r, σ')) → gG p l e ({ frames := 2, cells := 0, slots := 0, locals := 42 } : Room) s m args below meth c D (cyT cy) B 4 (eI D (cyT cy) (mW cy A X9) B below args s r σ') (mW cy A X9 σ_13) 0 0 22 [(0, .ref (A 0)), (1, .int c_10), (2, .int c_11), (3, .int v_12)] [] := by
          intro c_10 c_11 σ_13 n_14
          induction n_14 with
          | zero =>
            intro v_12 o_41 h K_16 K_17
            rw [f_X11_compare_L22] at h
            cases h
          | succ n_14 ih_15 =>
            intro v_12 o_41 h K_16 K_17
            rw [f_X11_compare_L22] at h
            refine g_iload_n X dX11_compare_22 rfl 3 rfl ?_
            refine g_aload_n X dX11_compare_23 rfl 0 rfl ?_
            refine g_get X (AD := A) mm0 (mE_0 cy A σ_13) hin11 rfl 5 (by decide) lk0 (fun _ h9 => h9) rfl dX11_compare_24 ?_
            refine g_iload_n X dX11_compare_27 rfl 1 rfl ?_
            obtain ⟨hg_20, h⟩ := grd_some h
            refine g_iald X (AD := A) mm6 (mE_6 cy A σ_13) 0 rfl hg_20 dX11_compare_28 ?_
            refine g_aload_n X dX11_compare_29 rfl 0 rfl ?_
            refine g_get X (AD := A) mm0 (mE_0 cy A σ_13) hin11 rfl 5 (by decide) lk0 (fun _ h9 => h9) rfl dX11_compare_30 ?_
            refine g_iload_n X dX11_compare_33 rfl 2 rfl ?_
            obtain ⟨hg_21, h⟩ := grd_some h
            refine g_iald X (AD := A) mm6 (mE_6 cy A σ_13) 0 rfl hg_21 dX11_compare_34 ?_
            obtain ⟨r_23, hf_22, h⟩ := bnd_some h
            refine g_callSI (AD := A) (As := [.int (gr σ_13 6 c_10.toNatClampNeg), .int (gr σ_13 6 c_11.toNatClampNeg)]) X (ZC_ok _ _ _ _ _) (m_X11_less hf_22) (va_cwS 2 X.1.2.2.2.2 gX11_compare_X11_less rfl rfl rfl (by decide +kernel) ⟨Nat.le_of_ble_eq_true rfl, Nat.le_of_ble_eq_true rfl⟩) rfl rfl (Nat.le_of_ble_eq_true rfl) ⟨by decide, by decide⟩ dX11_compare_35 ?_
            refine g_icmp_ge X (tgt := 87) dX11_compare_38 (by decide) (fun hc_24 => ?_) (fun hc_24 => ?_)
            · have h := ift hc_24 h
              cases h
              exact g_sub [0, 1, 2] rfl (K_16 _ rfl)
            · have h := iff_ hc_24 h
              refine g_aload_n X dX11_compare_41 rfl 0 rfl ?_
              refine g_iload_n X dX11_compare_42 rfl 1 rfl ?_
              refine g_iload_n X dX11_compare_43 rfl 3 rfl ?_
              obtain ⟨r_26, hf_25, h⟩ := bnd_some h
              refine g_callVI (AD := A) (As := [.int c_10, .int v_12]) X (ZC_ok _ _ _ _ _) (m_X11_firstAt hf_25) (cwV 2 X.1.2.2.2.2 gX11_compare_X11_firstAt rfl rfl rfl (by decide +kernel) ⟨Nat.le_of_ble_eq_true rfl, Nat.le_of_ble_eq_true rfl⟩) rfl mm0 (mE_0 cy A σ_13) rfl rfl (Nat.le_of_ble_eq_true rfl) ⟨by decide, by decide⟩ dX11_compare_44 ?_
              refine g_aload_n X dX11_compare_47 rfl 0 rfl ?_
              refine g_iload_n X dX11_compare_48 rfl 2 rfl ?_
              refine g_iload_n X dX11_compare_49 rfl 3 rfl ?_
              obtain ⟨r_28, hf_27, h⟩ := bnd_some h
              refine g_callVI (AD := A) (As := [.int c_11, .int v_12]) X (ZC_ok _ _ _ _ _) (m_X11_firstAt hf_27) (cwV 2 X.1.2.2.2.2 gX11_compare_X11_firstAt rfl rfl rfl (by decide +kernel) ⟨Nat.le_of_ble_eq_true rfl, Nat.le_of_ble_eq_true rfl⟩) rfl mm0 (mE_0 cy A σ_13) rfl rfl (Nat.le_of_ble_eq_true rfl) ⟨by decide, by decide⟩ dX11_compare_50 ?_
              refine g_icmp_eq X (tgt := 81) dX11_compare_53 (by decide) (fun hc_29 => ?_) (fun hc_29 => ?_)
              · have h := ift hc_29 h
                refine g_iinc X dX11_compare_81 3 rfl (v := v_12 + (1 : Int32)) rfl (by decide) (lv' := [(3, .int (v_12 + (1 : Int32))), (0, .ref (A 0)), (1, .int c_10), (2, .int c_11)]) rfl ?_
                refine g_goto X (tgt := 22) dX11_compare_84 (by decide) ?_
                exact g_sub [1, 2, 3, 0] rfl (ih_15 _ _ h K_16 K_17)
              · have h := iff_ hc_29 h
                refine g_aload_n X dX11_compare_56 rfl 0 rfl ?_
                refine g_aload_n X dX11_compare_57 rfl 0 rfl ?_
                refine g_iload_n X dX11_compare_58 rfl 1 rfl ?_
                refine g_iload_n X dX11_compare_59 rfl 3 rfl ?_
                obtain ⟨r_31, hf_30, h⟩ := bnd_some h
                refine g_callVI (AD := A) (As := [.int c_10, .int v_12]) X (ZC_ok _ _ _ _ _) (m_X11_firstAt hf_30) (cwV 2 X.1.2.2.2.2 gX11_compare_X11_firstAt rfl rfl rfl (by decide +kernel) ⟨Nat.le_of_ble_eq_true rfl, Nat.le_of_ble_eq_true rfl⟩) rfl mm0 (mE_0 cy A σ_13) rfl rfl (Nat.le_of_ble_eq_true rfl) ⟨by decide, by decide⟩ dX11_compare_60 ?_
                refine g_aload_n X dX11_compare_63 rfl 0 rfl ?_
                refine g_iload_n X dX11_compare_64 rfl 2 rfl ?_
                refine g_iload_n X dX11_compare_65 rfl 3 rfl ?_
                obtain ⟨r_33, hf_32, h⟩ := bnd_some h
                refine g_callVI (AD := A) (As := [.int c_11, .int v_12]) X (ZC_ok _ _ _ _ _) (m_X11_firstAt hf_32) (cwV 2 X.1.2.2.2.2 gX11_compare_X11_firstAt rfl rfl rfl (by decide +kernel) ⟨Nat.le_of_ble_eq_true rfl, Nat.le_of_ble_eq_true rfl⟩) rfl mm0 (mE_0 cy A σ_13) rfl rfl (Nat.le_of_ble_eq_true rfl) ⟨by decide, by decide⟩ dX11_compare_66 ?_
                obtain ⟨v_35, hj_40, h⟩ := bnd_some h
                have K_36 : gG p l e ({ frames := 2, cells := 0, slots := 0, locals := 42 } : Room) s m args below meth c D (cyT cy) B 4 (eI D (cyT cy) (mW cy A X9) B below args s r σ') (mW cy A X9 σ_13) 0 0 77 [] [.int v_35, .ref (A 0)] := by
                  obtain ⟨r_38, σ_39, hf_37, h⟩ := bnd2_some h
                  refine g_callVI (AD := A) (As := [.int v_35]) X (ZC_ok _ _ _ _ _) (m_X11_told hf_37) (cwV 1 X.1.2.2.2.2 gX11_compare_X11_told rfl rfl rfl (by decide +kernel) ⟨Nat.le_of_ble_eq_true rfl, Nat.le_of_ble_eq_true rfl⟩) rfl mm0 (mE_0 cy A σ_13) rfl rfl (Nat.le_of_ble_eq_true rfl) ⟨by decide, by decide⟩ dX11_compare_77 ?_
                  cases h
                  cases K_17 _ rfl
                  exact g_iret (Wf := mW cy A X9) X ⟨rfl, rfl⟩ dX11_compare_80
                have h := hj_40
                clear hj_40
                refine g_icmp_ge X (tgt := 76) dX11_compare_69 (by decide) (fun hc_34 => ?_) (fun hc_34 => ?_)
                · have h := ift hc_34 h
                  refine g_iconst X dX11_compare_76 (v := (1 : Int32)) (by decide) ?_
                  cases h
                  exact g_sub [] rfl K_36
                · have h := iff_ hc_34 h
                  refine g_iconst X dX11_compare_72 (v := (-1 : Int32)) (by decide) ?_
                  refine g_goto X (tgt := 77) dX11_compare_73 (by decide) ?_
                  cases h
                  exact g_sub [] rfl K_36
        rcases bndR_some h with ⟨r9, hl_42, he9⟩ | ⟨o9, hl_42, h⟩
        · exact g_sub [1, 2, 3, 0] rfl (L_18 a1 a2 σ FU (0 : Int32) (.inl r9) hl_42 (fun u_19 e9 => nomatch e9) (fun r8 e9 => by cases e9; exact he9))
        · obtain ⟨u_19, rfl⟩ : ∃ z, z = o9 := ⟨_, rfl⟩
          refine g_sub [1, 2, 3, 0] rfl (L_18 a1 a2 σ FU (0 : Int32) (.inr u_19) hl_42 (fun u_19z e9 => ?_) (fun r8 e9 => nomatch e9))
          cases e9
          refine g_aload_n X dX11_compare_87 rfl 0 rfl ?_
          refine g_aload_n X dX11_compare_88 rfl 0 rfl ?_
          refine g_get X (AD := A) mm0 (mE_0 cy A σ) hin11 rfl 5 (by decide) lk0 (fun _ h9 => h9) rfl dX11_compare_89 ?_
          refine g_iload_n X dX11_compare_92 rfl 1 rfl ?_
          obtain ⟨hg_43, h⟩ := grd_some h
          refine g_iald X (AD := A) mm6 (mE_6 cy A σ) 0 rfl hg_43 dX11_compare_93 ?_
          refine g_aload_n X dX11_compare_94 rfl 0 rfl ?_
          refine g_get X (AD := A) mm0 (mE_0 cy A σ) hin11 rfl 5 (by decide) lk0 (fun _ h9 => h9) rfl dX11_compare_95 ?_
          refine g_iload_n X dX11_compare_98 rfl 2 rfl ?_
          obtain ⟨hg_44, h⟩ := grd_some h
          refine g_iald X (AD := A) mm6 (mE_6 cy A σ) 0 rfl hg_44 dX11_compare_99 ?_
          obtain ⟨v_46, hj_54, h⟩ := bnd_some h
          have K_47 : gG p l e ({ frames := 2, cells := 0, slots := 0, locals := 42 } : Room) s m args below meth c D (cyT cy) B 4 (eI D (cyT cy) (mW cy A X9) B below args s r σ') (mW cy A X9 σ) 0 0 127 [] [.int v_46, .ref (A 0)] := by
            obtain ⟨r_52, σ_53, hf_51, h⟩ := bnd2_some h
            refine g_callVI (AD := A) (As := [.int v_46]) X (ZC_ok _ _ _ _ _) (m_X11_told hf_51) (cwV 1 X.1.2.2.2.2 gX11_compare_X11_told rfl rfl rfl (by decide +kernel) ⟨Nat.le_of_ble_eq_true rfl, Nat.le_of_ble_eq_true rfl⟩) rfl mm0 (mE_0 cy A σ) rfl rfl (Nat.le_of_ble_eq_true rfl) ⟨by decide, by decide⟩ dX11_compare_127 ?_
            cases h
            exact g_iret (Wf := mW cy A X9) X ⟨rfl, rfl⟩ dX11_compare_130
          have h := hj_54
          clear hj_54
          refine g_icmp_ge X (tgt := 107) dX11_compare_100 (by decide) (fun hc_45 => ?_) (fun hc_45 => ?_)
          · have h := ift hc_45 h
            refine g_aload_n X dX11_compare_107 rfl 0 rfl ?_
            refine g_get X (AD := A) mm0 (mE_0 cy A σ) hin11 rfl 5 (by decide) lk0 (fun _ h9 => h9) rfl dX11_compare_108 ?_
            refine g_iload_n X dX11_compare_111 rfl 1 rfl ?_
            obtain ⟨hg_48, h⟩ := grd_some h
            refine g_iald X (AD := A) mm6 (mE_6 cy A σ) 0 rfl hg_48 dX11_compare_112 ?_
            refine g_aload_n X dX11_compare_113 rfl 0 rfl ?_
            refine g_get X (AD := A) mm0 (mE_0 cy A σ) hin11 rfl 5 (by decide) lk0 (fun _ h9 => h9) rfl dX11_compare_114 ?_
            refine g_iload_n X dX11_compare_117 rfl 2 rfl ?_
            obtain ⟨hg_49, h⟩ := grd_some h
            refine g_iald X (AD := A) mm6 (mE_6 cy A σ) 0 rfl hg_49 dX11_compare_118 ?_
            refine g_icmp_le X (tgt := 126) dX11_compare_119 (by decide) (fun hc_50 => ?_) (fun hc_50 => ?_)
            · have h := ift hc_50 h
              refine g_iconst X dX11_compare_126 (v := (0 : Int32)) (by decide) ?_
              cases h
              exact g_sub [] rfl K_47
            · have h := iff_ hc_50 h
              refine g_iconst X dX11_compare_122 (v := (1 : Int32)) (by decide) ?_
              refine g_goto X (tgt := 127) dX11_compare_123 (by decide) ?_
              cases h
              exact g_sub [] rfl K_47
          · have h := iff_ hc_45 h
            refine g_iconst X dX11_compare_103 (v := (-1 : Int32)) (by decide) ?_
            refine g_goto X (tgt := 127) dX11_compare_104 (by decide) ?_
            cases h
            exact g_sub [] rfl K_47
      · have h := ift hc_9 h
        refine g_aload_n X dX11_compare_14 rfl 0 rfl ?_
        refine g_iconst X dX11_compare_15 (v := (1 : Int32)) (by decide) ?_
        obtain ⟨r_56, σ_57, hf_55, h⟩ := bnd2_some h
        refine g_callVI (AD := A) (As := [.int (1 : Int32)]) X (ZC_ok _ _ _ _ _) (m_X11_refuse hf_55) (cwV 1 X.1.2.2.2.2 gX11_compare_X11_refuse rfl rfl rfl (by decide +kernel) ⟨Nat.le_of_ble_eq_true rfl, Nat.le_of_ble_eq_true rfl⟩) rfl mm0 (mE_0 cy A σ) rfl rfl (Nat.le_of_ble_eq_true rfl) ⟨by decide, by decide⟩ dX11_compare_16 ?_
        cases h
        exact g_iret (Wf := mW cy A X9) X ⟨rfl, rfl⟩ dX11_compare_19
  exact K0
set_option maxHeartbeats 8000000 in
set_option maxRecDepth 100000 in
theorem m_X11_middle {σ : St} {a1 : Int32} {r : Int32} {σ' : St} (h : f_X11_middle a1 σ = some (r, σ')) : mI (ZC aK aO aS aV aT) D (cyT cy) l yX11_middle wsX11_middle ({ frames := 2, cells := 0, slots := 0, locals := 48 } : Room) (mW cy A X9) [.ref (A 0), .int a1] σ r σ' := by
  unfold f_X11_middle at h
  refine mI_of (cc := cX11_middle) (maxL := 3) (ret := (some .int)) (by decide) rfl (Nat.le_of_ble_eq_true rfl) (fun p e s m args below meth c B X => ?_)
  have hin11 : ∀ w ∈ wsX110, w ∈ wsX11_middle := by decide +kernel
  have lk0 : Cond.fieldLink RX11 22 "CardcabinetModel" "many" "[I" ∈ wsX11_middle := by decide +kernel
  have lk1 : Cond.fieldLink RX11 35 "CardcabinetModel" "work" "[I" ∈ wsX11_middle := by decide +kernel
  have lk2 : Cond.fieldLink RX11 16 "CardcabinetModel" "cards" "[I" ∈ wsX11_middle := by decide +kernel
  have lk3 : Cond.fieldLink RX11 7 "CardcabinetModel" "firsts" "[I" ∈ wsX11_middle := by decide +kernel
  have K0 : gG p l e ({ frames := 2, cells := 0, slots := 0, locals := 48 } : Room) s m args below meth c D (cyT cy) B 3 (eI D (cyT cy) (mW cy A X9) B below args s r σ') (mW cy A X9 σ) 0 0 0 [(0, .ref (A 0)), (1, .int a1)] [] := by
    refine g_iload_n X dX11_middle_0 rfl 1 rfl ?_
    obtain ⟨r_2, hf_1, h⟩ := bnd_some h
    refine g_callSI (AD := A) (As := [.int a1]) X (ZC_ok _ _ _ _ _) (m_X11_isRow hf_1) (va_cwS 1 X.1.2.2.2.2 gX11_middle_X11_isRow rfl rfl rfl (by decide +kernel) ⟨Nat.le_of_ble_eq_true rfl, Nat.le_of_ble_eq_true rfl⟩) rfl rfl (Nat.le_of_ble_eq_true rfl) ⟨by decide, by decide⟩ dX11_middle_1 ?_
    refine g_if_ne X (tgt := 13) dX11_middle_4 (by decide) (fun hc_3 => ?_) (fun hc_3 => ?_)
    · have h := iff_ hc_3 h
      refine g_aload_n X dX11_middle_13 rfl 0 rfl ?_
      refine g_get X (AD := A) mm0 (mE_0 cy A σ) hin11 rfl 5 (by decide) lk0 (fun _ h9 => h9) rfl dX11_middle_14 ?_
      refine g_iload_n X dX11_middle_17 rfl 1 rfl ?_
      obtain ⟨hg_4, h⟩ := grd_some h
      refine g_iald X (AD := A) mm6 (mE_6 cy A σ) 0 rfl hg_4 dX11_middle_18 ?_
      refine g_if_ne X (tgt := 28) dX11_middle_19 (by decide) (fun hc_5 => ?_) (fun hc_5 => ?_)
      · have h := iff_ hc_5 h
        refine g_iconst X dX11_middle_28 (v := (0 : Int32)) (by decide) ?_
        refine g_istore_n X dX11_middle_29 rfl (by decide) (lv' := [(2, .int (0 : Int32)), (0, .ref (A 0)), (1, .int a1)]) rfl ?_
        have L_13 : ∀ (c_6 : Int32) (n_9 : Nat) (v_7 : Int32) (σ_8 : St) (σ_14 : St), f_X11_middle_L30 c_6 n_9 v_7 σ_8 = some (σ_14) → gG p l e ({ frames := 2, cells := 0, slots := 0, locals := 48 } : Room) s m args below meth c D (cyT cy) B 3 (eI D (cyT cy) (mW cy A X9) B below args s r σ') (mW cy A X9 σ_14) 0 0 64 [(0, .ref (A 0)), (1, .int c_6)] [] → gG p l e ({ frames := 2, cells := 0, slots := 0, locals := 48 } : Room) s m args below meth c D (cyT cy) B 3 (eI D (cyT cy) (mW cy A X9) B below args s r σ') (mW cy A X9 σ_8) 0 0 30 [(0, .ref (A 0)), (1, .int c_6), (2, .int v_7)] [] := by
          intro c_6 n_9
          induction n_9 with
          | zero =>
            intro v_7 σ_8 σ_14 h K_11
            rw [f_X11_middle_L30] at h
            cases h
          | succ n_9 ih_10 =>
            intro v_7 σ_8 σ_14 h K_11
            rw [f_X11_middle_L30] at h
            refine g_iload_n X dX11_middle_30 rfl 2 rfl ?_
            refine g_aload_n X dX11_middle_31 rfl 0 rfl ?_
            refine g_get X (AD := A) mm0 (mE_0 cy A σ_8) hin11 rfl 5 (by decide) lk0 (fun _ h9 => h9) rfl dX11_middle_32 ?_
            refine g_iload_n X dX11_middle_35 rfl 1 rfl ?_
            obtain ⟨hg_15, h⟩ := grd_some h
            refine g_iald X (AD := A) mm6 (mE_6 cy A σ_8) 0 rfl hg_15 dX11_middle_36 ?_
            refine g_icmp_ge X (tgt := 64) dX11_middle_37 (by decide) (fun hc_16 => ?_) (fun hc_16 => ?_)
            · have h := ift hc_16 h
              cases h
              exact g_sub [0, 1] rfl K_11
            · have h := iff_ hc_16 h
              refine g_aload_n X dX11_middle_40 rfl 0 rfl ?_
              refine g_get X (AD := A) mm0 (mE_0 cy A σ_8) hin11 rfl 11 (by decide) lk1 (fun _ h9 => h9) rfl dX11_middle_41 ?_
              refine g_iload_n X dX11_middle_44 rfl 2 rfl ?_
              refine g_aload_n X dX11_middle_45 rfl 0 rfl ?_
              refine g_get X (AD := A) mm0 (mE_0 cy A σ_8) hin11 rfl 3 (by decide) lk2 (fun _ h9 => h9) rfl dX11_middle_46 ?_
              refine g_sipush X dX11_middle_49 (v := (800 : Int32)) (by decide) ?_
              refine g_iload_n X dX11_middle_52 rfl 1 rfl ?_
              refine g_imul X dX11_middle_53 ?_
              refine g_iload_n X dX11_middle_54 rfl 2 rfl ?_
              refine g_iadd X dX11_middle_55 ?_
              obtain ⟨hg_17, h⟩ := grd_some h
              refine g_iald X (AD := A) mm4 (mE_4 cy A σ_8) 0 rfl hg_17 dX11_middle_56 ?_
              obtain ⟨hg_18, h⟩ := grd_some h
              refine g_iast X (AD := A) (σ' := sr σ_8 12 (upd (gr σ_8 12) v_7.toNatClampNeg (gr σ_8 4 (((800 : Int32) * c_6) + v_7).toNatClampNeg))) mm12 (mE_12 cy A σ_8) 0 rfl hg_18 (sm_a12 cy A σ_8 (upd (gr σ_8 12) v_7.toNatClampNeg (gr σ_8 4 (((800 : Int32) * c_6) + v_7).toNatClampNeg))) dX11_middle_57 ?_
              obtain ⟨σ_19, e_20, h⟩ := bnd_some h
              have e_20 := Option.some.inj e_20
              rw [e_20]
              refine g_iinc X dX11_middle_58 2 rfl (v := v_7 + (1 : Int32)) rfl (by decide) (lv' := [(2, .int (v_7 + (1 : Int32))), (0, .ref (A 0)), (1, .int c_6)]) rfl ?_
              refine g_goto X (tgt := 30) dX11_middle_61 (by decide) ?_
              exact g_sub [1, 2, 0] rfl (ih_10 _ _ _ h K_11)
        obtain ⟨σ_14, hl_21, h⟩ := bnd_some h
        refine g_sub [1, 2, 0] rfl (L_13 a1 FU (0 : Int32) σ σ_14 hl_21 ?_)
        refine g_aload_n X dX11_middle_64 rfl 0 rfl ?_
        refine g_aload_n X dX11_middle_65 rfl 0 rfl ?_
        refine g_get X (AD := A) mm0 (mE_0 cy A σ_14) hin11 rfl 5 (by decide) lk0 (fun _ h9 => h9) rfl dX11_middle_66 ?_
        refine g_iload_n X dX11_middle_69 rfl 1 rfl ?_
        obtain ⟨hg_22, h⟩ := grd_some h
        refine g_iald X (AD := A) mm6 (mE_6 cy A σ_14) 0 rfl hg_22 dX11_middle_70 ?_
        refine g_iconst X dX11_middle_71 (v := (0 : Int32)) (by decide) ?_
        obtain ⟨r_24, σ_25, hf_23, h⟩ := bnd2_some h
        refine g_callVI (AD := A) (As := [.int (gr σ_14 6 a1.toNatClampNeg), .int (0 : Int32)]) X (ZC_ok _ _ _ _ _) (m_X11_sorts hf_23) (cwV 2 X.1.2.2.2.2 gX11_middle_X11_sorts rfl rfl rfl (by decide +kernel) ⟨Nat.le_of_ble_eq_true rfl, Nat.le_of_ble_eq_true rfl⟩) rfl mm0 (mE_0 cy A σ_14) rfl rfl (Nat.le_of_ble_eq_true rfl) ⟨by decide, by decide⟩ dX11_middle_72 ?_
        refine g_istore_n X dX11_middle_75 rfl (by decide) (lv' := [(2, .int r_24), (0, .ref (A 0)), (1, .int a1)]) rfl ?_
        refine g_aload_n X dX11_middle_76 rfl 1 rfl ?_
        refine g_aload_n X dX11_middle_77 rfl 1 rfl ?_
        refine g_get X (AD := A) mm0 (mE_0 cy A σ_25) hin11 rfl 0 (by decide) lk3 (fun _ h9 => h9) rfl dX11_middle_78 ?_
        refine g_aload_n X dX11_middle_81 rfl 1 rfl ?_
        refine g_get X (AD := A) mm0 (mE_0 cy A σ_25) hin11 rfl 11 (by decide) lk1 (fun _ h9 => h9) rfl dX11_middle_82 ?_
        refine g_aload_n X dX11_middle_85 rfl 1 rfl ?_
        refine g_get X (AD := A) mm0 (mE_0 cy A σ_25) hin11 rfl 5 (by decide) lk0 (fun _ h9 => h9) rfl dX11_middle_86 ?_
        refine g_iload_n X dX11_middle_89 rfl 2 rfl ?_
        obtain ⟨hg_26, h⟩ := grd_some h
        refine g_iald X (AD := A) mm6 (mE_6 cy A σ_25) 0 rfl hg_26 dX11_middle_90 ?_
        refine g_iconst X dX11_middle_91 (v := (1 : Int32)) (by decide) ?_
        refine g_isub X dX11_middle_92 ?_
        refine g_iconst X dX11_middle_93 (v := (2 : Int32)) (by decide) ?_
        refine g_idiv X dX11_middle_94 (by decide) ?_
        obtain ⟨hg_27, h⟩ := grd_some h
        refine g_iald X (AD := A) mm12 (mE_12 cy A σ_25) 0 rfl hg_27 dX11_middle_95 ?_
        obtain ⟨hg_28, h⟩ := grd_some h
        refine g_iald X (AD := A) mm1 (mE_1 cy A σ_25) 0 rfl hg_28 dX11_middle_96 ?_
        obtain ⟨r_30, σ_31, hf_29, h⟩ := bnd2_some h
        refine g_callVI (AD := A) (As := [.int (gr σ_25 1 (gr σ_25 12 (((gr σ_25 6 a1.toNatClampNeg) - (1 : Int32)) / (2 : Int32)).toNatClampNeg).toNatClampNeg)]) X (ZC_ok _ _ _ _ _) (m_X11_told hf_29) (cwV 1 X.1.2.2.2.2 gX11_middle_X11_told rfl rfl rfl (by decide +kernel) ⟨Nat.le_of_ble_eq_true rfl, Nat.le_of_ble_eq_true rfl⟩) rfl mm0 (mE_0 cy A σ_25) rfl rfl (Nat.le_of_ble_eq_true rfl) ⟨by decide, by decide⟩ dX11_middle_97 ?_
        cases h
        exact g_iret (Wf := mW cy A X9) X ⟨rfl, rfl⟩ dX11_middle_100
      · have h := ift hc_5 h
        refine g_aload_n X dX11_middle_22 rfl 0 rfl ?_
        refine g_iconst X dX11_middle_23 (v := (2 : Int32)) (by decide) ?_
        obtain ⟨r_33, σ_34, hf_32, h⟩ := bnd2_some h
        refine g_callVI (AD := A) (As := [.int (2 : Int32)]) X (ZC_ok _ _ _ _ _) (m_X11_refuse hf_32) (cwV 1 X.1.2.2.2.2 gX11_middle_X11_refuse rfl rfl rfl (by decide +kernel) ⟨Nat.le_of_ble_eq_true rfl, Nat.le_of_ble_eq_true rfl⟩) rfl mm0 (mE_0 cy A σ) rfl rfl (Nat.le_of_ble_eq_true rfl) ⟨by decide, by decide⟩ dX11_middle_24 ?_
        cases h
        exact g_iret (Wf := mW cy A X9) X ⟨rfl, rfl⟩ dX11_middle_27
    · have h := ift hc_3 h
      refine g_aload_n X dX11_middle_7 rfl 0 rfl ?_
      refine g_iconst X dX11_middle_8 (v := (1 : Int32)) (by decide) ?_
      obtain ⟨r_36, σ_37, hf_35, h⟩ := bnd2_some h
      refine g_callVI (AD := A) (As := [.int (1 : Int32)]) X (ZC_ok _ _ _ _ _) (m_X11_refuse hf_35) (cwV 1 X.1.2.2.2.2 gX11_middle_X11_refuse rfl rfl rfl (by decide +kernel) ⟨Nat.le_of_ble_eq_true rfl, Nat.le_of_ble_eq_true rfl⟩) rfl mm0 (mE_0 cy A σ) rfl rfl (Nat.le_of_ble_eq_true rfl) ⟨by decide, by decide⟩ dX11_middle_9 ?_
      cases h
      exact g_iret (Wf := mW cy A X9) X ⟨rfl, rfl⟩ dX11_middle_12
  exact K0
set_option maxHeartbeats 8000000 in
set_option maxRecDepth 100000 in
theorem m_X11_mean {σ : St} {a1 : Int32} {r : UInt64} {σ' : St} (h : f_X11_mean a1 σ = some (r, σ')) : mDd (ZC aK aO aS aV aT) D (cyT cy) l yX11_mean wsX11_mean ({ frames := 2, cells := 0, slots := 0, locals := 42 } : Room) (mW cy A X9) [.ref (A 0), .int a1] σ r σ' := by
  unfold f_X11_mean at h
  refine mDd_of (cc := cX11_mean) (maxL := 5) (ret := (some .double)) (by decide) rfl (Nat.le_of_ble_eq_true rfl) (fun p e s m args below meth c B X => ?_)
  have hin11 : ∀ w ∈ wsX110, w ∈ wsX11_mean := by decide +kernel
  have lk0 : Cond.fieldLink RX11 66 "CardcabinetModel" "thrown" "I" ∈ wsX11_mean := by decide +kernel
  have lk1 : Cond.fieldLink RX11 22 "CardcabinetModel" "many" "[I" ∈ wsX11_mean := by decide +kernel
  have K0 : gG p l e ({ frames := 2, cells := 0, slots := 0, locals := 42 } : Room) s m args below meth c D (cyT cy) B 5 (eDd D (cyT cy) (mW cy A X9) B below args s r σ') (mW cy A X9 σ) 0 0 0 [(0, .ref (A 0)), (1, .int a1)] [] := by
    refine g_aload_n X dX11_mean_0 rfl 0 rfl ?_
    refine g_iload_n X dX11_mean_1 rfl 1 rfl ?_
    obtain ⟨r_2, hf_1, h⟩ := bnd_some h
    refine g_callSI (AD := A) (As := [.int a1]) X (ZC_ok _ _ _ _ _) (m_X11_isRow hf_1) (va_cwS 1 X.1.2.2.2.2 gX11_mean_X11_isRow rfl rfl rfl (by decide +kernel) ⟨Nat.le_of_ble_eq_true rfl, Nat.le_of_ble_eq_true rfl⟩) rfl rfl (Nat.le_of_ble_eq_true rfl) ⟨by decide, by decide⟩ dX11_mean_2 ?_
    obtain ⟨v_4, hj_26, h⟩ := bnd_some h
    have K_5 : gG p l e ({ frames := 2, cells := 0, slots := 0, locals := 42 } : Room) s m args below meth c D (cyT cy) B 5 (eDd D (cyT cy) (mW cy A X9) B below args s r σ') (mW cy A X9 σ) 0 0 13 [(0, .ref (A 0)), (1, .int a1)] [.int v_4, .ref (A 0)] := by
      refine g_put X (AD := A) (ty := .int) (v := .int v_4) (σ' := si σ 10 v_4) mm0 (mE_0 cy A σ) hin11 rfl tyX11 tyX11_ok nmX11 10 (by decide) lk0 (fun _ h9 => h9) rfl (by decide +kernel) rfl rfl (Nat.le_of_ble_eq_true rfl) (sm_10 cy A σ v_4) dX11_mean_13 ?_
      refine g_aload_n X dX11_mean_16 rfl 0 rfl ?_
      refine g_get X (AD := A) mm0 (mE_0 cy A (si σ 10 v_4)) hin11 rfl 10 (by decide) lk0 (fun _ h9 => h9) rfl dX11_mean_17 ?_
      refine g_if_ne X (tgt := 32) dX11_mean_20 (by decide) (fun hc_6 => ?_) (fun hc_6 => ?_)
      · have h := iff_ hc_6 h
        refine g_dconst X dX11_mean_32 ?_
        cases h
        exact g_dret (Wf := mW cy A X9) X ⟨rfl, rfl⟩ dX11_mean_33
      · have h := ift hc_6 h
        refine g_aload_n X dX11_mean_23 rfl 0 rfl ?_
        refine g_get X (AD := A) mm0 (mE_0 cy A (si σ 10 v_4)) hin11 rfl 5 (by decide) lk1 (fun _ h9 => h9) rfl dX11_mean_24 ?_
        refine g_iload_n X dX11_mean_27 rfl 1 rfl ?_
        obtain ⟨hg_7, h⟩ := grd_some h
        refine g_iald X (AD := A) mm6 (mE_6 cy A (si σ 10 v_4)) 0 rfl hg_7 dX11_mean_28 ?_
        refine g_if_ne X (tgt := 34) dX11_mean_29 (by decide) (fun hc_8 => ?_) (fun hc_8 => ?_)
        · have h := iff_ hc_8 h
          refine g_lconst X dX11_mean_34 (v := (0 : Int64)) (by decide) ?_
          refine g_lstore_n X dX11_mean_35 rfl (by decide) (lv' := [(2, .long (0 : Int64)), (0, .ref (A 0)), (1, .int a1)]) rfl ?_
          refine g_iconst X dX11_mean_36 (v := (0 : Int32)) (by decide) ?_
          refine g_istore X dX11_mean_37 (by decide) (lv' := [(4, .int (0 : Int32)), (2, .long (0 : Int64)), (0, .ref (A 0)), (1, .int a1)]) rfl ?_
          have L_17 : ∀ (c_9 : Int32) (σ_12 : St) (n_13 : Nat) (v_10 : Int64) (v_11 : Int32) (o_18 : Int64), f_X11_mean_L39 c_9 σ_12 n_13 v_10 v_11 = some (o_18) → gG p l e ({ frames := 2, cells := 0, slots := 0, locals := 42 } : Room) s m args below meth c D (cyT cy) B 5 (eDd D (cyT cy) (mW cy A X9) B below args s r σ') (mW cy A X9 σ_12) 0 0 67 [(0, .ref (A 0)), (1, .int c_9), (2, .long o_18)] [] → gG p l e ({ frames := 2, cells := 0, slots := 0, locals := 42 } : Room) s m args below meth c D (cyT cy) B 5 (eDd D (cyT cy) (mW cy A X9) B below args s r σ') (mW cy A X9 σ_12) 0 0 39 [(0, .ref (A 0)), (1, .int c_9), (2, .long v_10), (4, .int v_11)] [] := by
            intro c_9 σ_12 n_13
            induction n_13 with
            | zero =>
              intro v_10 v_11 o_18 h K_15
              rw [f_X11_mean_L39] at h
              cases h
            | succ n_13 ih_14 =>
              intro v_10 v_11 o_18 h K_15
              rw [f_X11_mean_L39] at h
              refine g_iload X dX11_mean_39 3 rfl ?_
              refine g_aload_n X dX11_mean_41 rfl 0 rfl ?_
              refine g_get X (AD := A) mm0 (mE_0 cy A σ_12) hin11 rfl 5 (by decide) lk1 (fun _ h9 => h9) rfl dX11_mean_42 ?_
              refine g_iload_n X dX11_mean_45 rfl 1 rfl ?_
              obtain ⟨hg_19, h⟩ := grd_some h
              refine g_iald X (AD := A) mm6 (mE_6 cy A σ_12) 0 rfl hg_19 dX11_mean_46 ?_
              refine g_icmp_ge X (tgt := 67) dX11_mean_47 (by decide) (fun hc_20 => ?_) (fun hc_20 => ?_)
              · have h := ift hc_20 h
                cases h
                exact g_sub [0, 1, 2] rfl K_15
              · have h := iff_ hc_20 h
                refine g_lload_n X dX11_mean_50 rfl 2 rfl ?_
                refine g_aload_n X dX11_mean_51 rfl 0 rfl ?_
                refine g_iload_n X dX11_mean_52 rfl 1 rfl ?_
                refine g_iload X dX11_mean_53 3 rfl ?_
                obtain ⟨r_22, hf_21, h⟩ := bnd_some h
                refine g_callVI (AD := A) (As := [.int c_9, .int v_11]) X (ZC_ok _ _ _ _ _) (m_X11_firstAt hf_21) (cwV 2 X.1.2.2.2.2 gX11_mean_X11_firstAt rfl rfl rfl (by decide +kernel) ⟨Nat.le_of_ble_eq_true rfl, Nat.le_of_ble_eq_true rfl⟩) rfl mm0 (mE_0 cy A σ_12) rfl rfl (Nat.le_of_ble_eq_true rfl) ⟨by decide, by decide⟩ dX11_mean_55 ?_
                refine g_i2l X dX11_mean_58 ?_
                refine g_ladd X dX11_mean_59 ?_
                refine g_lstore_n X dX11_mean_60 rfl (by decide) (lv' := [(2, .long (v_10 + r_22.toInt64)), (0, .ref (A 0)), (1, .int c_9), (4, .int v_11)]) rfl ?_
                refine g_iinc X dX11_mean_61 3 rfl (v := v_11 + (1 : Int32)) rfl (by decide) (lv' := [(4, .int (v_11 + (1 : Int32))), (2, .long (v_10 + r_22.toInt64)), (0, .ref (A 0)), (1, .int c_9)]) rfl ?_
                refine g_goto X (tgt := 39) dX11_mean_64 (by decide) ?_
                exact g_sub [2, 3, 1, 0] rfl (ih_14 _ _ _ h K_15)
          obtain ⟨o_18, hl_23, h⟩ := bnd_some h
          refine g_sub [2, 3, 1, 0] rfl (L_17 a1 (si σ 10 v_4) FU (0 : Int64) (0 : Int32) o_18 hl_23 ?_)
          refine g_lload_n X dX11_mean_67 rfl 2 rfl ?_
          refine g_l2d X dX11_mean_68 ?_
          refine g_aload_n X dX11_mean_69 rfl 0 rfl ?_
          refine g_get X (AD := A) mm0 (mE_0 cy A (si σ 10 v_4)) hin11 rfl 5 (by decide) lk1 (fun _ h9 => h9) rfl dX11_mean_70 ?_
          refine g_iload_n X dX11_mean_73 rfl 1 rfl ?_
          obtain ⟨hg_24, h⟩ := grd_some h
          refine g_iald X (AD := A) mm6 (mE_6 cy A (si σ 10 v_4)) 0 rfl hg_24 dX11_mean_74 ?_
          refine g_i2d X dX11_mean_75 ?_
          obtain ⟨hg_25, h⟩ := grd_some h
          refine g_ddiv X dX11_mean_76 (nn64_of hg_25) ?_
          cases h
          exact g_dret (Wf := mW cy A X9) X ⟨rfl, rfl⟩ dX11_mean_77
        · have h := ift hc_8 h
          refine g_dconst X dX11_mean_32 ?_
          cases h
          exact g_dret (Wf := mW cy A X9) X ⟨rfl, rfl⟩ dX11_mean_33
    have h := hj_26
    clear hj_26
    refine g_if_eq X (tgt := 12) dX11_mean_5 (by decide) (fun hc_3 => ?_) (fun hc_3 => ?_)
    · have h := ift hc_3 h
      refine g_iconst X dX11_mean_12 (v := (1 : Int32)) (by decide) ?_
      cases h
      exact g_sub [0, 1] rfl K_5
    · have h := iff_ hc_3 h
      refine g_iconst X dX11_mean_8 (v := (0 : Int32)) (by decide) ?_
      refine g_goto X (tgt := 13) dX11_mean_9 (by decide) ?_
      cases h
      exact g_sub [0, 1] rfl K_5
  exact K0
set_option maxHeartbeats 8000000 in
set_option maxRecDepth 100000 in
theorem m_X11_risingShare {σ : St} {a1 : Int32} {r : UInt32} {σ' : St} (h : f_X11_risingShare a1 σ = some (r, σ')) : mF (ZC aK aO aS aV aT) D (cyT cy) l yX11_risingShare wsX11_risingShare ({ frames := 3, cells := 0, slots := 0, locals := 68 } : Room) (mW cy A X9) [.ref (A 0), .int a1] σ r σ' := by
  unfold f_X11_risingShare at h
  refine mF_of (cc := cX11_risingShare) (maxL := 2) (ret := (some .float)) (by decide) rfl (Nat.le_of_ble_eq_true rfl) (fun p e s m args below meth c B X => ?_)
  have hin11 : ∀ w ∈ wsX110, w ∈ wsX11_risingShare := by decide +kernel
  have lk0 : Cond.fieldLink RX11 66 "CardcabinetModel" "thrown" "I" ∈ wsX11_risingShare := by decide +kernel
  have lk1 : Cond.fieldLink RX11 22 "CardcabinetModel" "many" "[I" ∈ wsX11_risingShare := by decide +kernel
  have K0 : gG p l e ({ frames := 3, cells := 0, slots := 0, locals := 68 } : Room) s m args below meth c D (cyT cy) B 2 (eF D (cyT cy) (mW cy A X9) B below args s r σ') (mW cy A X9 σ) 0 0 0 [(0, .ref (A 0)), (1, .int a1)] [] := by
    refine g_aload_n X dX11_risingShare_0 rfl 0 rfl ?_
    refine g_iload_n X dX11_risingShare_1 rfl 1 rfl ?_
    obtain ⟨r_2, hf_1, h⟩ := bnd_some h
    refine g_callSI (AD := A) (As := [.int a1]) X (ZC_ok _ _ _ _ _) (m_X11_isRow hf_1) (va_cwS 1 X.1.2.2.2.2 gX11_risingShare_X11_isRow rfl rfl rfl (by decide +kernel) ⟨Nat.le_of_ble_eq_true rfl, Nat.le_of_ble_eq_true rfl⟩) rfl rfl (Nat.le_of_ble_eq_true rfl) ⟨by decide, by decide⟩ dX11_risingShare_2 ?_
    obtain ⟨v_4, hj_16, h⟩ := bnd_some h
    have K_5 : gG p l e ({ frames := 3, cells := 0, slots := 0, locals := 68 } : Room) s m args below meth c D (cyT cy) B 2 (eF D (cyT cy) (mW cy A X9) B below args s r σ') (mW cy A X9 σ) 0 0 13 [(0, .ref (A 0)), (1, .int a1)] [.int v_4, .ref (A 0)] := by
      refine g_put X (AD := A) (ty := .int) (v := .int v_4) (σ' := si σ 10 v_4) mm0 (mE_0 cy A σ) hin11 rfl tyX11 tyX11_ok nmX11 10 (by decide) lk0 (fun _ h9 => h9) rfl (by decide +kernel) rfl rfl (Nat.le_of_ble_eq_true rfl) (sm_10 cy A σ v_4) dX11_risingShare_13 ?_
      refine g_aload_n X dX11_risingShare_16 rfl 0 rfl ?_
      refine g_get X (AD := A) mm0 (mE_0 cy A (si σ 10 v_4)) hin11 rfl 10 (by decide) lk0 (fun _ h9 => h9) rfl dX11_risingShare_17 ?_
      obtain ⟨v_7, hj_15, h⟩ := bnd_some h
      have K_8 : gG p l e ({ frames := 3, cells := 0, slots := 0, locals := 68 } : Room) s m args below meth c D (cyT cy) B 2 (eF D (cyT cy) (mW cy A X9) B below args s r σ') (mW cy A X9 (si σ 10 v_4)) 0 0 50 [] [.float v_7] := by
        cases h
        exact g_fret (Wf := mW cy A X9) X ⟨rfl, rfl⟩ dX11_risingShare_50
      have h := hj_15
      clear hj_15
      refine g_if_ne X (tgt := 32) dX11_risingShare_20 (by decide) (fun hc_6 => ?_) (fun hc_6 => ?_)
      · have h := iff_ hc_6 h
        refine g_fconst X dX11_risingShare_32 ?_
        refine g_goto X (tgt := 50) dX11_risingShare_33 (by decide) ?_
        cases h
        exact g_sub [] rfl K_8
      · have h := ift hc_6 h
        refine g_aload_n X dX11_risingShare_23 rfl 0 rfl ?_
        refine g_get X (AD := A) mm0 (mE_0 cy A (si σ 10 v_4)) hin11 rfl 5 (by decide) lk1 (fun _ h9 => h9) rfl dX11_risingShare_24 ?_
        refine g_iload_n X dX11_risingShare_27 rfl 1 rfl ?_
        obtain ⟨hg_9, h⟩ := grd_some h
        refine g_iald X (AD := A) mm6 (mE_6 cy A (si σ 10 v_4)) 0 rfl hg_9 dX11_risingShare_28 ?_
        refine g_if_ne X (tgt := 36) dX11_risingShare_29 (by decide) (fun hc_10 => ?_) (fun hc_10 => ?_)
        · have h := iff_ hc_10 h
          refine g_aload_n X dX11_risingShare_36 rfl 0 rfl ?_
          refine g_iload_n X dX11_risingShare_37 rfl 1 rfl ?_
          obtain ⟨r_12, hf_11, h⟩ := bnd_some h
          refine g_callVI (AD := A) (As := [.int a1]) X (ZC_ok _ _ _ _ _) (m_X11_longestOf hf_11) (cwV 1 X.1.2.2.2.2 gX11_risingShare_X11_longestOf rfl rfl rfl (by decide +kernel) ⟨Nat.le_of_ble_eq_true rfl, Nat.le_of_ble_eq_true rfl⟩) rfl mm0 (mE_0 cy A (si σ 10 v_4)) rfl rfl (Nat.le_of_ble_eq_true rfl) ⟨by decide, by decide⟩ dX11_risingShare_38 ?_
          refine g_i2f X dX11_risingShare_41 ?_
          refine g_aload_n X dX11_risingShare_42 rfl 0 rfl ?_
          refine g_get X (AD := A) mm0 (mE_0 cy A (si σ 10 v_4)) hin11 rfl 5 (by decide) lk1 (fun _ h9 => h9) rfl dX11_risingShare_43 ?_
          refine g_iload_n X dX11_risingShare_46 rfl 1 rfl ?_
          obtain ⟨hg_13, h⟩ := grd_some h
          refine g_iald X (AD := A) mm6 (mE_6 cy A (si σ 10 v_4)) 0 rfl hg_13 dX11_risingShare_47 ?_
          refine g_i2f X dX11_risingShare_48 ?_
          obtain ⟨hg_14, h⟩ := grd_some h
          refine g_fdiv X dX11_risingShare_49 (nn32_of hg_14) ?_
          cases h
          exact g_sub [] rfl K_8
        · have h := ift hc_10 h
          refine g_fconst X dX11_risingShare_32 ?_
          refine g_goto X (tgt := 50) dX11_risingShare_33 (by decide) ?_
          cases h
          exact g_sub [] rfl K_8
    have h := hj_16
    clear hj_16
    refine g_if_eq X (tgt := 12) dX11_risingShare_5 (by decide) (fun hc_3 => ?_) (fun hc_3 => ?_)
    · have h := ift hc_3 h
      refine g_iconst X dX11_risingShare_12 (v := (1 : Int32)) (by decide) ?_
      cases h
      exact g_sub [0, 1] rfl K_5
    · have h := iff_ hc_3 h
      refine g_iconst X dX11_risingShare_8 (v := (0 : Int32)) (by decide) ?_
      refine g_goto X (tgt := 13) dX11_risingShare_9 (by decide) ?_
      cases h
      exact g_sub [0, 1] rfl K_5
  exact K0
set_option maxHeartbeats 8000000 in
set_option maxRecDepth 100000 in
theorem m_X11_loads {σ : St} {a1 : Int32} {σ' : St} (h : f_X11_loads a1 σ = some σ') : mV (ZC aK aO aS aV aT) D (cyT cy) l yX11_loads wsX11_loads ({ frames := 0, cells := 0, slots := 0, locals := 0 } : Room) (mW cy A X9) [.ref (A 0), .int a1] σ σ' := by
  unfold f_X11_loads at h
  refine mV_of (cc := cX11_loads) (maxL := 3) (ret := none) (by decide) rfl (Nat.le_of_ble_eq_true rfl) (fun p e s m args below meth c B X => ?_)
  have hin11 : ∀ w ∈ wsX110, w ∈ wsX11_loads := by decide +kernel
  have lk0 : Cond.fieldLink RX11 22 "CardcabinetModel" "many" "[I" ∈ wsX11_loads := by decide +kernel
  have lk1 : Cond.fieldLink RX11 35 "CardcabinetModel" "work" "[I" ∈ wsX11_loads := by decide +kernel
  have lk2 : Cond.fieldLink RX11 16 "CardcabinetModel" "cards" "[I" ∈ wsX11_loads := by decide +kernel
  have K0 : gG p l e ({ frames := 0, cells := 0, slots := 0, locals := 0 } : Room) s m args below meth c D (cyT cy) B 3 (eV D (cyT cy) (mW cy A X9) B below args s σ') (mW cy A X9 σ) 0 0 0 [(0, .ref (A 0)), (1, .int a1)] [] := by
    refine g_iconst X dX11_loads_0 (v := (0 : Int32)) (by decide) ?_
    refine g_istore_n X dX11_loads_1 rfl (by decide) (lv' := [(2, .int (0 : Int32)), (0, .ref (A 0)), (1, .int a1)]) rfl ?_
    have L_8 : ∀ (c_1 : Int32) (n_4 : Nat) (v_2 : Int32) (σ_3 : St) (σ_9 : St), f_X11_loads_L2 c_1 n_4 v_2 σ_3 = some (σ_9) → gG p l e ({ frames := 0, cells := 0, slots := 0, locals := 0 } : Room) s m args below meth c D (cyT cy) B 3 (eV D (cyT cy) (mW cy A X9) B below args s σ') (mW cy A X9 σ_9) 0 0 36 [] [] → gG p l e ({ frames := 0, cells := 0, slots := 0, locals := 0 } : Room) s m args below meth c D (cyT cy) B 3 (eV D (cyT cy) (mW cy A X9) B below args s σ') (mW cy A X9 σ_3) 0 0 2 [(0, .ref (A 0)), (1, .int c_1), (2, .int v_2)] [] := by
      intro c_1 n_4
      induction n_4 with
      | zero =>
        intro v_2 σ_3 σ_9 h K_6
        rw [f_X11_loads_L2] at h
        cases h
      | succ n_4 ih_5 =>
        intro v_2 σ_3 σ_9 h K_6
        rw [f_X11_loads_L2] at h
        refine g_iload_n X dX11_loads_2 rfl 2 rfl ?_
        refine g_aload_n X dX11_loads_3 rfl 0 rfl ?_
        refine g_get X (AD := A) mm0 (mE_0 cy A σ_3) hin11 rfl 5 (by decide) lk0 (fun _ h9 => h9) rfl dX11_loads_4 ?_
        refine g_iload_n X dX11_loads_7 rfl 1 rfl ?_
        obtain ⟨hg_10, h⟩ := grd_some h
        refine g_iald X (AD := A) mm6 (mE_6 cy A σ_3) 0 rfl hg_10 dX11_loads_8 ?_
        refine g_icmp_ge X (tgt := 36) dX11_loads_9 (by decide) (fun hc_11 => ?_) (fun hc_11 => ?_)
        · have h := ift hc_11 h
          cases h
          exact g_sub [] rfl K_6
        · have h := iff_ hc_11 h
          refine g_aload_n X dX11_loads_12 rfl 0 rfl ?_
          refine g_get X (AD := A) mm0 (mE_0 cy A σ_3) hin11 rfl 11 (by decide) lk1 (fun _ h9 => h9) rfl dX11_loads_13 ?_
          refine g_iload_n X dX11_loads_16 rfl 2 rfl ?_
          refine g_aload_n X dX11_loads_17 rfl 0 rfl ?_
          refine g_get X (AD := A) mm0 (mE_0 cy A σ_3) hin11 rfl 3 (by decide) lk2 (fun _ h9 => h9) rfl dX11_loads_18 ?_
          refine g_sipush X dX11_loads_21 (v := (800 : Int32)) (by decide) ?_
          refine g_iload_n X dX11_loads_24 rfl 1 rfl ?_
          refine g_imul X dX11_loads_25 ?_
          refine g_iload_n X dX11_loads_26 rfl 2 rfl ?_
          refine g_iadd X dX11_loads_27 ?_
          obtain ⟨hg_12, h⟩ := grd_some h
          refine g_iald X (AD := A) mm4 (mE_4 cy A σ_3) 0 rfl hg_12 dX11_loads_28 ?_
          obtain ⟨hg_13, h⟩ := grd_some h
          refine g_iast X (AD := A) (σ' := sr σ_3 12 (upd (gr σ_3 12) v_2.toNatClampNeg (gr σ_3 4 (((800 : Int32) * c_1) + v_2).toNatClampNeg))) mm12 (mE_12 cy A σ_3) 0 rfl hg_13 (sm_a12 cy A σ_3 (upd (gr σ_3 12) v_2.toNatClampNeg (gr σ_3 4 (((800 : Int32) * c_1) + v_2).toNatClampNeg))) dX11_loads_29 ?_
          obtain ⟨σ_14, e_15, h⟩ := bnd_some h
          have e_15 := Option.some.inj e_15
          rw [e_15]
          refine g_iinc X dX11_loads_30 2 rfl (v := v_2 + (1 : Int32)) rfl (by decide) (lv' := [(2, .int (v_2 + (1 : Int32))), (0, .ref (A 0)), (1, .int c_1)]) rfl ?_
          refine g_goto X (tgt := 2) dX11_loads_33 (by decide) ?_
          exact g_sub [1, 2, 0] rfl (ih_5 _ _ _ h K_6)
    obtain ⟨σ_9, hl_16, h⟩ := bnd_some h
    refine g_sub [1, 2, 0] rfl (L_8 a1 FU (0 : Int32) σ σ_9 hl_16 ?_)
    cases h
    exact g_vret (Wf := mW cy A X9) X rfl dX11_loads_36
  exact K0
end MV
