section MV
variable {D : va_G} {cy : Nat → ClassId} {A aK aO aS aV aT : Nat → Nat} {l : Launch} {X9 : va_W}
set_option maxHeartbeats 8000000 in
set_option maxRecDepth 100000 in
theorem m_X11_isAsChosen {σ : St} {a1 : Int32} {r : Int32} {σ' : St} (h : f_X11_isAsChosen a1 σ = some (r, σ')) : mI (ZC aK aO aS aV aT) D (cyT cy) l yX11_isAsChosen wsX11_isAsChosen ({ frames := 1, cells := 0, slots := 0, locals := 22 } : Room) (mW cy A X9) [.ref (A 0), .int a1] σ r σ' := by
  unfold f_X11_isAsChosen at h
  refine mI_of (cc := cX11_isAsChosen) (maxL := 6) (ret := (some .boolean)) (by decide) rfl (Nat.le_of_ble_eq_true rfl) (fun p e s m args below meth c B X => ?_)
  have hin11 : ∀ w ∈ wsX110, w ∈ wsX11_isAsChosen := by decide +kernel
  have lk0 : Cond.fieldLink RX11 22 "CardcabinetModel" "many" "[I" ∈ wsX11_isAsChosen := by decide +kernel
  have lk1 : Cond.fieldLink RX11 59 "CardcabinetModel" "isTaken" "[Z" ∈ wsX11_isAsChosen := by decide +kernel
  have lk2 : Cond.fieldLink RX11 35 "CardcabinetModel" "work" "[I" ∈ wsX11_isAsChosen := by decide +kernel
  have lk3 : Cond.fieldLink RX11 16 "CardcabinetModel" "cards" "[I" ∈ wsX11_isAsChosen := by decide +kernel
  have K0 : gG p l e ({ frames := 1, cells := 0, slots := 0, locals := 22 } : Room) s m args below meth c D (cyT cy) B 6 (eI D (cyT cy) (mW cy A X9) B below args s r σ') (mW cy A X9 σ) 0 0 0 [(0, .ref (A 0)), (1, .int a1)] [] := by
    refine g_aload_n X dX11_isAsChosen_0 rfl 0 rfl ?_
    refine g_get X (AD := A) mm0 (mE_0 cy A σ) hin11 rfl 5 (by decide) lk0 (fun _ h9 => h9) rfl dX11_isAsChosen_1 ?_
    refine g_iload_n X dX11_isAsChosen_4 rfl 1 rfl ?_
    obtain ⟨hg_1, h⟩ := grd_some h
    refine g_iald X (AD := A) mm6 (mE_6 cy A σ) 0 rfl hg_1 dX11_isAsChosen_5 ?_
    refine g_istore_n X dX11_isAsChosen_6 rfl (by decide) (lv' := [(2, .int (gr σ 6 a1.toNatClampNeg)), (0, .ref (A 0)), (1, .int a1)]) rfl ?_
    refine g_iconst X dX11_isAsChosen_7 (v := (0 : Int32)) (by decide) ?_
    refine g_istore_n X dX11_isAsChosen_8 rfl (by decide) (lv' := [(3, .int (0 : Int32)), (2, .int (gr σ 6 a1.toNatClampNeg)), (0, .ref (A 0)), (1, .int a1)]) rfl ?_
    have L_10 : ∀ (c_2 : Int32) (c_3 : Int32) (n_6 : Nat) (v_4 : Int32) (σ_5 : St) (σ_11 : St), f_X11_isAsChosen_L9 c_3 n_6 v_4 σ_5 = some (σ_11) → gG p l e ({ frames := 1, cells := 0, slots := 0, locals := 22 } : Room) s m args below meth c D (cyT cy) B 6 (eI D (cyT cy) (mW cy A X9) B below args s r σ') (mW cy A X9 σ_11) 0 0 27 [(0, .ref (A 0)), (1, .int c_2), (2, .int c_3)] [] → gG p l e ({ frames := 1, cells := 0, slots := 0, locals := 22 } : Room) s m args below meth c D (cyT cy) B 6 (eI D (cyT cy) (mW cy A X9) B below args s r σ') (mW cy A X9 σ_5) 0 0 9 [(0, .ref (A 0)), (1, .int c_2), (2, .int c_3), (3, .int v_4)] [] := by
      intro c_2 c_3 n_6
      induction n_6 with
      | zero =>
        intro v_4 σ_5 σ_11 h K_8
        rw [f_X11_isAsChosen_L9] at h
        cases h
      | succ n_6 ih_7 =>
        intro v_4 σ_5 σ_11 h K_8
        rw [f_X11_isAsChosen_L9] at h
        refine g_iload_n X dX11_isAsChosen_9 rfl 3 rfl ?_
        refine g_iload_n X dX11_isAsChosen_10 rfl 2 rfl ?_
        refine g_icmp_ge X (tgt := 27) dX11_isAsChosen_11 (by decide) (fun hc_12 => ?_) (fun hc_12 => ?_)
        · have h := ift hc_12 h
          cases h
          exact g_sub [0, 1, 2] rfl K_8
        · have h := iff_ hc_12 h
          refine g_aload_n X dX11_isAsChosen_14 rfl 0 rfl ?_
          refine g_get X (AD := A) mm0 (mE_0 cy A σ_5) hin11 rfl 25 (by decide) lk1 (fun _ h9 => h9) rfl dX11_isAsChosen_15 ?_
          refine g_iload_n X dX11_isAsChosen_18 rfl 3 rfl ?_
          refine g_iconst X dX11_isAsChosen_19 (v := (0 : Int32)) (by decide) ?_
          obtain ⟨hg_13, h⟩ := grd_some h
          refine g_zast X (AD := A) (σ' := sr σ_5 26 (upd (gr σ_5 26) v_4.toNatClampNeg (vp_nar .boolean (0 : Int32)))) mm26 (mE_26 cy A σ_5) 2 rfl hg_13 (sm_a26 cy A σ_5 (upd (gr σ_5 26) v_4.toNatClampNeg (vp_nar .boolean (0 : Int32)))) dX11_isAsChosen_20 ?_
          obtain ⟨σ_14, e_15, h⟩ := bnd_some h
          have e_15 := Option.some.inj e_15
          rw [e_15]
          refine g_iinc X dX11_isAsChosen_21 3 rfl (v := v_4 + (1 : Int32)) rfl (by decide) (lv' := [(3, .int (v_4 + (1 : Int32))), (0, .ref (A 0)), (1, .int c_2), (2, .int c_3)]) rfl ?_
          refine g_goto X (tgt := 9) dX11_isAsChosen_24 (by decide) ?_
          exact g_sub [1, 2, 3, 0] rfl (ih_7 _ _ _ h K_8)
    obtain ⟨σ_11, hl_16, h⟩ := bnd_some h
    refine g_sub [2, 3, 1, 0] rfl (L_10 a1 (gr σ 6 a1.toNatClampNeg) FU (0 : Int32) σ σ_11 hl_16 ?_)
    refine g_iconst X dX11_isAsChosen_27 (v := (0 : Int32)) (by decide) ?_
    refine g_istore_n X dX11_isAsChosen_28 rfl (by decide) (lv' := [(3, .int (0 : Int32)), (0, .ref (A 0)), (1, .int a1), (2, .int (gr σ 6 a1.toNatClampNeg))]) rfl ?_
    have L_25 : ∀ (c_17 : Int32) (c_18 : Int32) (n_21 : Nat) (v_19 : Int32) (σ_20 : St) (o_59 : (Int32 × St) ⊕ (St)), f_X11_isAsChosen_L29 c_17 c_18 n_21 v_19 σ_20 = some o_59 → (∀ (σ_26 : St), o_59 = .inr (σ_26) → gG p l e ({ frames := 1, cells := 0, slots := 0, locals := 22 } : Room) s m args below meth c D (cyT cy) B 6 (eI D (cyT cy) (mW cy A X9) B below args s r σ') (mW cy A X9 σ_26) 0 0 127 [] []) → (∀ r8, o_59 = .inl r8 → r8 = (r, σ')) → gG p l e ({ frames := 1, cells := 0, slots := 0, locals := 22 } : Room) s m args below meth c D (cyT cy) B 6 (eI D (cyT cy) (mW cy A X9) B below args s r σ') (mW cy A X9 σ_20) 0 0 29 [(0, .ref (A 0)), (1, .int c_17), (2, .int c_18), (3, .int v_19)] [] := by
      intro c_17 c_18 n_21
      induction n_21 with
      | zero =>
        intro v_19 σ_20 o_59 h K_23 K_24
        rw [f_X11_isAsChosen_L29] at h
        cases h
      | succ n_21 ih_22 =>
        intro v_19 σ_20 o_59 h K_23 K_24
        rw [f_X11_isAsChosen_L29] at h
        refine g_iload_n X dX11_isAsChosen_29 rfl 3 rfl ?_
        refine g_iload_n X dX11_isAsChosen_30 rfl 2 rfl ?_
        refine g_icmp_ge X (tgt := 127) dX11_isAsChosen_31 (by decide) (fun hc_27 => ?_) (fun hc_27 => ?_)
        · have h := ift hc_27 h
          cases h
          exact g_sub [] rfl (K_23 _ rfl)
        · have h := iff_ hc_27 h
          refine g_iconst X dX11_isAsChosen_34 (v := (-1 : Int32)) (by decide) ?_
          refine g_istore X dX11_isAsChosen_35 (by decide) (lv' := [(4, .int (-1 : Int32)), (0, .ref (A 0)), (1, .int c_17), (2, .int c_18), (3, .int v_19)]) rfl ?_
          refine g_iconst X dX11_isAsChosen_37 (v := (0 : Int32)) (by decide) ?_
          refine g_istore X dX11_isAsChosen_38 (by decide) (lv' := [(5, .int (0 : Int32)), (4, .int (-1 : Int32)), (0, .ref (A 0)), (1, .int c_17), (2, .int c_18), (3, .int v_19)]) rfl ?_
          have L_38 : ∀ (c_28 : Int32) (c_29 : Int32) (c_30 : Int32) (σ_33 : St) (n_34 : Nat) (v_31 : Int32) (v_32 : Int32) (o_39 : Int32), f_X11_isAsChosen_L40 c_28 c_29 σ_33 n_34 v_31 v_32 = some (o_39) → gG p l e ({ frames := 1, cells := 0, slots := 0, locals := 22 } : Room) s m args below meth c D (cyT cy) B 6 (eI D (cyT cy) (mW cy A X9) B below args s r σ') (mW cy A X9 σ_33) 0 0 89 [(0, .ref (A 0)), (1, .int c_28), (2, .int c_29), (3, .int c_30), (4, .int o_39)] [] → gG p l e ({ frames := 1, cells := 0, slots := 0, locals := 22 } : Room) s m args below meth c D (cyT cy) B 6 (eI D (cyT cy) (mW cy A X9) B below args s r σ') (mW cy A X9 σ_33) 0 0 40 [(0, .ref (A 0)), (1, .int c_28), (2, .int c_29), (3, .int c_30), (4, .int v_31), (5, .int v_32)] [] := by
            intro c_28 c_29 c_30 σ_33 n_34
            induction n_34 with
            | zero =>
              intro v_31 v_32 o_39 h K_36
              rw [f_X11_isAsChosen_L40] at h
              cases h
            | succ n_34 ih_35 =>
              intro v_31 v_32 o_39 h K_36
              rw [f_X11_isAsChosen_L40] at h
              refine g_iload X dX11_isAsChosen_40 5 rfl ?_
              refine g_iload_n X dX11_isAsChosen_42 rfl 2 rfl ?_
              refine g_icmp_ge X (tgt := 89) dX11_isAsChosen_43 (by decide) (fun hc_40 => ?_) (fun hc_40 => ?_)
              · have h := ift hc_40 h
                cases h
                exact g_sub [0, 1, 2, 3, 4] rfl K_36
              · have h := iff_ hc_40 h
                refine g_aload_n X dX11_isAsChosen_46 rfl 0 rfl ?_
                refine g_get X (AD := A) mm0 (mE_0 cy A σ_33) hin11 rfl 25 (by decide) lk1 (fun _ h9 => h9) rfl dX11_isAsChosen_47 ?_
                refine g_iload X dX11_isAsChosen_50 5 rfl ?_
                obtain ⟨hg_41, h⟩ := grd_some h
                refine g_zald X (AD := A) mm26 (mE_26 cy A σ_33) 2 rfl hg_41 dX11_isAsChosen_52 ?_
                obtain ⟨v_43, hj_51, h⟩ := bnd_some h
                have K_44 : gG p l e ({ frames := 1, cells := 0, slots := 0, locals := 22 } : Room) s m args below meth c D (cyT cy) B 6 (eI D (cyT cy) (mW cy A X9) B below args s r σ') (mW cy A X9 σ_33) 0 0 83 [(0, .ref (A 0)), (1, .int c_28), (2, .int c_29), (3, .int c_30), (4, .int v_43), (5, .int v_32)] [] := by
                  refine g_iinc X dX11_isAsChosen_83 5 rfl (v := v_32 + (1 : Int32)) rfl (by decide) (lv' := [(5, .int (v_32 + (1 : Int32))), (0, .ref (A 0)), (1, .int c_28), (2, .int c_29), (3, .int c_30), (4, .int v_43)]) rfl ?_
                  refine g_goto X (tgt := 40) dX11_isAsChosen_86 (by decide) ?_
                  exact g_sub [1, 2, 3, 4, 5, 0] rfl (ih_35 _ _ _ h K_36)
                have h := hj_51
                clear hj_51
                refine g_if_ne X (tgt := 83) dX11_isAsChosen_53 (by decide) (fun hc_42 => ?_) (fun hc_42 => ?_)
                · have h := iff_ hc_42 h
                  cases h
                  exact g_sub [0, 1, 2, 3, 4, 5] rfl K_44
                · have h := ift hc_42 h
                  refine g_iload X dX11_isAsChosen_56 4 rfl ?_
                  refine g_iconst X dX11_isAsChosen_58 (v := (-1 : Int32)) (by decide) ?_
                  refine g_icmp_eq X (tgt := 79) dX11_isAsChosen_59 (by decide) (fun hc_45 => ?_) (fun hc_45 => ?_)
                  · have h := ift hc_45 h
                    refine g_iload X dX11_isAsChosen_79 5 rfl ?_
                    refine g_istore X dX11_isAsChosen_81 (by decide) (lv' := [(4, .int v_32), (0, .ref (A 0)), (1, .int c_28), (2, .int c_29), (3, .int c_30), (5, .int v_32)]) rfl ?_
                    cases h
                    exact g_sub [1, 2, 3, 4, 0, 5] rfl K_44
                  · have h := iff_ hc_45 h
                    refine g_aload_n X dX11_isAsChosen_62 rfl 0 rfl ?_
                    refine g_iload_n X dX11_isAsChosen_63 rfl 1 rfl ?_
                    refine g_iload X dX11_isAsChosen_64 5 rfl ?_
                    obtain ⟨r_47, hf_46, h⟩ := bnd_some h
                    refine g_callVI (AD := A) (As := [.int c_28, .int v_32]) X (ZC_ok _ _ _ _ _) (m_X11_firstAt hf_46) (cwV 2 X.1.2.2.2.2 gX11_isAsChosen_X11_firstAt rfl rfl rfl (by decide +kernel) ⟨Nat.le_of_ble_eq_true rfl, Nat.le_of_ble_eq_true rfl⟩) rfl mm0 (mE_0 cy A σ_33) rfl rfl (Nat.le_of_ble_eq_true rfl) ⟨by decide, by decide⟩ dX11_isAsChosen_66 ?_
                    refine g_aload_n X dX11_isAsChosen_69 rfl 0 rfl ?_
                    refine g_iload_n X dX11_isAsChosen_70 rfl 1 rfl ?_
                    refine g_iload X dX11_isAsChosen_71 4 rfl ?_
                    obtain ⟨r_49, hf_48, h⟩ := bnd_some h
                    refine g_callVI (AD := A) (As := [.int c_28, .int v_31]) X (ZC_ok _ _ _ _ _) (m_X11_firstAt hf_48) (cwV 2 X.1.2.2.2.2 gX11_isAsChosen_X11_firstAt rfl rfl rfl (by decide +kernel) ⟨Nat.le_of_ble_eq_true rfl, Nat.le_of_ble_eq_true rfl⟩) rfl mm0 (mE_0 cy A σ_33) rfl rfl (Nat.le_of_ble_eq_true rfl) ⟨by decide, by decide⟩ dX11_isAsChosen_73 ?_
                    refine g_icmp_ge X (tgt := 83) dX11_isAsChosen_76 (by decide) (fun hc_50 => ?_) (fun hc_50 => ?_)
                    · have h := ift hc_50 h
                      cases h
                      exact g_sub [0, 1, 2, 3, 4, 5] rfl K_44
                    · have h := iff_ hc_50 h
                      refine g_iload X dX11_isAsChosen_79 5 rfl ?_
                      refine g_istore X dX11_isAsChosen_81 (by decide) (lv' := [(4, .int v_32), (0, .ref (A 0)), (1, .int c_28), (2, .int c_29), (3, .int c_30), (5, .int v_32)]) rfl ?_
                      cases h
                      exact g_sub [1, 2, 3, 4, 0, 5] rfl K_44
          obtain ⟨o_39, hl_52, h⟩ := bnd_some h
          refine g_sub [2, 3, 4, 5, 1, 0] rfl (L_38 c_17 c_18 v_19 σ_20 FU (-1 : Int32) (0 : Int32) o_39 hl_52 ?_)
          refine g_aload_n X dX11_isAsChosen_89 rfl 0 rfl ?_
          refine g_get X (AD := A) mm0 (mE_0 cy A σ_20) hin11 rfl 11 (by decide) lk2 (fun _ h9 => h9) rfl dX11_isAsChosen_90 ?_
          refine g_iload_n X dX11_isAsChosen_93 rfl 3 rfl ?_
          obtain ⟨hg_53, h⟩ := grd_some h
          refine g_iald X (AD := A) mm12 (mE_12 cy A σ_20) 0 rfl hg_53 dX11_isAsChosen_94 ?_
          refine g_aload_n X dX11_isAsChosen_95 rfl 0 rfl ?_
          refine g_get X (AD := A) mm0 (mE_0 cy A σ_20) hin11 rfl 3 (by decide) lk3 (fun _ h9 => h9) rfl dX11_isAsChosen_96 ?_
          refine g_sipush X dX11_isAsChosen_99 (v := (800 : Int32)) (by decide) ?_
          refine g_iload_n X dX11_isAsChosen_102 rfl 1 rfl ?_
          refine g_imul X dX11_isAsChosen_103 ?_
          refine g_iload X dX11_isAsChosen_104 4 rfl ?_
          refine g_iadd X dX11_isAsChosen_106 ?_
          obtain ⟨hg_54, h⟩ := grd_some h
          refine g_iald X (AD := A) mm4 (mE_4 cy A σ_20) 0 rfl hg_54 dX11_isAsChosen_107 ?_
          refine g_icmp_eq X (tgt := 113) dX11_isAsChosen_108 (by decide) (fun hc_55 => ?_) (fun hc_55 => ?_)
          · have h := ift hc_55 h
            refine g_aload_n X dX11_isAsChosen_113 rfl 0 rfl ?_
            refine g_get X (AD := A) mm0 (mE_0 cy A σ_20) hin11 rfl 25 (by decide) lk1 (fun _ h9 => h9) rfl dX11_isAsChosen_114 ?_
            refine g_iload X dX11_isAsChosen_117 4 rfl ?_
            refine g_iconst X dX11_isAsChosen_119 (v := (1 : Int32)) (by decide) ?_
            obtain ⟨hg_56, h⟩ := grd_some h
            refine g_zast X (AD := A) (σ' := sr σ_20 26 (upd (gr σ_20 26) o_39.toNatClampNeg (vp_nar .boolean (1 : Int32)))) mm26 (mE_26 cy A σ_20) 2 rfl hg_56 (sm_a26 cy A σ_20 (upd (gr σ_20 26) o_39.toNatClampNeg (vp_nar .boolean (1 : Int32)))) dX11_isAsChosen_120 ?_
            obtain ⟨σ_57, e_58, h⟩ := bnd_some h
            have e_58 := Option.some.inj e_58
            rw [e_58]
            refine g_iinc X dX11_isAsChosen_121 3 rfl (v := v_19 + (1 : Int32)) rfl (by decide) (lv' := [(3, .int (v_19 + (1 : Int32))), (0, .ref (A 0)), (1, .int c_17), (2, .int c_18), (4, .int o_39)]) rfl ?_
            refine g_goto X (tgt := 29) dX11_isAsChosen_124 (by decide) ?_
            exact g_sub [1, 2, 3, 0] rfl (ih_22 _ _ _ h K_23 K_24)
          · have h := iff_ hc_55 h
            refine g_iconst X dX11_isAsChosen_111 (v := (0 : Int32)) (by decide) ?_
            cases h
            cases K_24 _ rfl
            exact g_zret (Wf := mW cy A X9) X rfl ⟨rfl, rfl⟩ dX11_isAsChosen_112
    rcases bndR_some h with ⟨r9, hl_60, he9⟩ | ⟨o9, hl_60, h⟩
    · exact g_sub [1, 2, 3, 0] rfl (L_25 a1 (gr σ 6 a1.toNatClampNeg) FU (0 : Int32) σ_11 (.inl r9) hl_60 (fun σ_26 e9 => nomatch e9) (fun r8 e9 => by cases e9; exact he9))
    · obtain ⟨σ_26, rfl⟩ : ∃ z, z = o9 := ⟨_, rfl⟩
      refine g_sub [1, 2, 3, 0] rfl (L_25 a1 (gr σ 6 a1.toNatClampNeg) FU (0 : Int32) σ_11 (.inr σ_26) hl_60 (fun σ_26z e9 => ?_) (fun r8 e9 => nomatch e9))
      cases e9
      refine g_iconst X dX11_isAsChosen_127 (v := (1 : Int32)) (by decide) ?_
      cases h
      exact g_zret (Wf := mW cy A X9) X rfl ⟨rfl, rfl⟩ dX11_isAsChosen_128
  exact K0
set_option maxHeartbeats 8000000 in
set_option maxRecDepth 100000 in
theorem m_X11_isTrue {σ : St} {a1 : Int32} {r : Int32} {σ' : St} (h : f_X11_isTrue a1 σ = some (r, σ')) : mI (ZC aK aO aS aV aT) D (cyT cy) l yX11_isTrue wsX11_isTrue ({ frames := 2, cells := 0, slots := 0, locals := 48 } : Room) (mW cy A X9) [.ref (A 0), .int a1] σ r σ' := by
  unfold f_X11_isTrue at h
  refine mI_of (cc := cX11_isTrue) (maxL := 5) (ret := (some .boolean)) (by decide) rfl (Nat.le_of_ble_eq_true rfl) (fun p e s m args below meth c B X => ?_)
  have hin11 : ∀ w ∈ wsX110, w ∈ wsX11_isTrue := by decide +kernel
  have lk0 : Cond.fieldLink RX11 22 "CardcabinetModel" "many" "[I" ∈ wsX11_isTrue := by decide +kernel
  have lk1 : Cond.fieldLink RX11 63 "CardcabinetModel" "both" "[I" ∈ wsX11_isTrue := by decide +kernel
  have lk2 : Cond.fieldLink RX11 35 "CardcabinetModel" "work" "[I" ∈ wsX11_isTrue := by decide +kernel
  have K0 : gG p l e ({ frames := 2, cells := 0, slots := 0, locals := 48 } : Room) s m args below meth c D (cyT cy) B 5 (eI D (cyT cy) (mW cy A X9) B below args s r σ') (mW cy A X9 σ) 0 0 0 [(0, .ref (A 0)), (1, .int a1)] [] := by
    refine g_aload_n X dX11_isTrue_0 rfl 0 rfl ?_
    refine g_get X (AD := A) mm0 (mE_0 cy A σ) hin11 rfl 5 (by decide) lk0 (fun _ h9 => h9) rfl dX11_isTrue_1 ?_
    refine g_iload_n X dX11_isTrue_4 rfl 1 rfl ?_
    obtain ⟨hg_1, h⟩ := grd_some h
    refine g_iald X (AD := A) mm6 (mE_6 cy A σ) 0 rfl hg_1 dX11_isTrue_5 ?_
    refine g_istore_n X dX11_isTrue_6 rfl (by decide) (lv' := [(2, .int (gr σ 6 a1.toNatClampNeg)), (0, .ref (A 0)), (1, .int a1)]) rfl ?_
    refine g_aload_n X dX11_isTrue_7 rfl 1 rfl ?_
    refine g_iload_n X dX11_isTrue_8 rfl 2 rfl ?_
    obtain ⟨σ_3, hf_2, h⟩ := bnd_some h
    refine g_callVV (AD := A) (As := [.int a1]) X (ZC_ok _ _ _ _ _) (m_X11_loads hf_2) (cwV 1 X.1.2.2.2.2 gX11_isTrue_X11_loads rfl rfl rfl (by decide +kernel) ⟨Nat.le_of_ble_eq_true rfl, Nat.le_of_ble_eq_true rfl⟩) rfl mm0 (mE_0 cy A σ) rfl rfl (Nat.le_of_ble_eq_true rfl) ⟨by decide, by decide⟩ dX11_isTrue_9 ?_
    refine g_aload_n X dX11_isTrue_12 rfl 1 rfl ?_
    refine g_iload_n X dX11_isTrue_13 rfl 0 rfl ?_
    refine g_iconst X dX11_isTrue_14 (v := (0 : Int32)) (by decide) ?_
    obtain ⟨r_5, σ_6, hf_4, h⟩ := bnd2_some h
    refine g_callVI (AD := A) (As := [.int (gr σ 6 a1.toNatClampNeg), .int (0 : Int32)]) X (ZC_ok _ _ _ _ _) (m_X11_sorts hf_4) (cwV 2 X.1.2.2.2.2 gX11_isTrue_X11_sorts rfl rfl rfl (by decide +kernel) ⟨Nat.le_of_ble_eq_true rfl, Nat.le_of_ble_eq_true rfl⟩) rfl mm0 (mE_0 cy A σ_3) rfl rfl (Nat.le_of_ble_eq_true rfl) ⟨by decide, by decide⟩ dX11_isTrue_15 ?_
    refine g_istore_n X dX11_isTrue_18 rfl (by decide) (lv' := [(3, .int r_5), (2, .int (gr σ 6 a1.toNatClampNeg)), (0, .ref (A 0)), (1, .int a1)]) rfl ?_
    refine g_aload_n X dX11_isTrue_19 rfl 2 rfl ?_
    refine g_iload_n X dX11_isTrue_20 rfl 3 rfl ?_
    obtain ⟨r_8, σ_9, hf_7, h⟩ := bnd2_some h
    refine g_callVI (AD := A) (As := [.int a1]) X (ZC_ok _ _ _ _ _) (m_X11_isAsChosen hf_7) (cwV 1 X.1.2.2.2.2 gX11_isTrue_X11_isAsChosen rfl rfl rfl (by decide +kernel) ⟨Nat.le_of_ble_eq_true rfl, Nat.le_of_ble_eq_true rfl⟩) rfl mm0 (mE_0 cy A σ_6) rfl rfl (Nat.le_of_ble_eq_true rfl) ⟨by decide, by decide⟩ dX11_isTrue_21 ?_
    refine g_if_eq X (tgt := 36) dX11_isTrue_24 (by decide) (fun hc_10 => ?_) (fun hc_10 => ?_)
    · have h := ift hc_10 h
      refine g_iconst X dX11_isTrue_36 (v := (0 : Int32)) (by decide) ?_
      cases h
      exact g_zret (Wf := mW cy A X9) X rfl ⟨rfl, rfl⟩ dX11_isTrue_37
    · have h := iff_ hc_10 h
      refine g_aload_n X dX11_isTrue_27 rfl 2 rfl ?_
      refine g_iload_n X dX11_isTrue_28 rfl 1 rfl ?_
      refine g_iconst X dX11_isTrue_29 (v := (0 : Int32)) (by decide) ?_
      obtain ⟨r_12, σ_13, hf_11, h⟩ := bnd2_some h
      refine g_callVI (AD := A) (As := [.int (gr σ 6 a1.toNatClampNeg), .int (0 : Int32)]) X (ZC_ok _ _ _ _ _) (m_X11_sorts hf_11) (cwV 2 X.1.2.2.2.2 gX11_isTrue_X11_sorts rfl rfl rfl (by decide +kernel) ⟨Nat.le_of_ble_eq_true rfl, Nat.le_of_ble_eq_true rfl⟩) rfl mm0 (mE_0 cy A σ_9) rfl rfl (Nat.le_of_ble_eq_true rfl) ⟨by decide, by decide⟩ dX11_isTrue_30 ?_
      refine g_if_eq X (tgt := 38) dX11_isTrue_33 (by decide) (fun hc_14 => ?_) (fun hc_14 => ?_)
      · have h := ift hc_14 h
        refine g_aload_n X dX11_isTrue_38 rfl 2 rfl ?_
        refine g_iload_n X dX11_isTrue_39 rfl 3 rfl ?_
        obtain ⟨σ_16, hf_15, h⟩ := bnd_some h
        refine g_callVV (AD := A) (As := [.int a1]) X (ZC_ok _ _ _ _ _) (m_X11_loads hf_15) (cwV 1 X.1.2.2.2.2 gX11_isTrue_X11_loads rfl rfl rfl (by decide +kernel) ⟨Nat.le_of_ble_eq_true rfl, Nat.le_of_ble_eq_true rfl⟩) rfl mm0 (mE_0 cy A σ_13) rfl rfl (Nat.le_of_ble_eq_true rfl) ⟨by decide, by decide⟩ dX11_isTrue_40 ?_
        refine g_iload_n X dX11_isTrue_43 rfl 0 rfl ?_
        refine g_aload_n X dX11_isTrue_44 rfl 2 rfl ?_
        refine g_iload_n X dX11_isTrue_45 rfl 1 rfl ?_
        refine g_iconst X dX11_isTrue_46 (v := (3 : Int32)) (by decide) ?_
        obtain ⟨r_18, σ_19, hf_17, h⟩ := bnd2_some h
        refine g_callVI (AD := A) (As := [.int (gr σ 6 a1.toNatClampNeg), .int (3 : Int32)]) X (ZC_ok _ _ _ _ _) (m_X11_sorts hf_17) (cwV 2 X.1.2.2.2.2 gX11_isTrue_X11_sorts rfl rfl rfl (by decide +kernel) ⟨Nat.le_of_ble_eq_true rfl, Nat.le_of_ble_eq_true rfl⟩) rfl mm0 (mE_0 cy A σ_16) rfl rfl (Nat.le_of_ble_eq_true rfl) ⟨by decide, by decide⟩ dX11_isTrue_47 ?_
        refine g_iadd X dX11_isTrue_50 ?_
        refine g_istore_n X dX11_isTrue_51 rfl (by decide) (lv' := [(3, .int (r_5 + r_18)), (2, .int (gr σ 6 a1.toNatClampNeg)), (0, .ref (A 0)), (1, .int a1)]) rfl ?_
        refine g_iconst X dX11_isTrue_52 (v := (0 : Int32)) (by decide) ?_
        refine g_istore X dX11_isTrue_53 (by decide) (lv' := [(4, .int (0 : Int32)), (3, .int (r_5 + r_18)), (2, .int (gr σ 6 a1.toNatClampNeg)), (0, .ref (A 0)), (1, .int a1)]) rfl ?_
        have L_29 : ∀ (c_20 : Int32) (c_21 : Int32) (c_22 : Int32) (n_25 : Nat) (v_23 : Int32) (σ_24 : St) (σ_30 : St), f_X11_isTrue_L55 c_21 n_25 v_23 σ_24 = some (σ_30) → gG p l e ({ frames := 2, cells := 0, slots := 0, locals := 48 } : Room) s m args below meth c D (cyT cy) B 5 (eI D (cyT cy) (mW cy A X9) B below args s r σ') (mW cy A X9 σ_30) 0 0 81 [(0, .ref (A 0)), (1, .int c_20), (2, .int c_21), (3, .int c_22)] [] → gG p l e ({ frames := 2, cells := 0, slots := 0, locals := 48 } : Room) s m args below meth c D (cyT cy) B 5 (eI D (cyT cy) (mW cy A X9) B below args s r σ') (mW cy A X9 σ_24) 0 0 55 [(0, .ref (A 0)), (1, .int c_20), (2, .int c_21), (3, .int c_22), (4, .int v_23)] [] := by
          intro c_20 c_21 c_22 n_25
          induction n_25 with
          | zero =>
            intro v_23 σ_24 σ_30 h K_27
            rw [f_X11_isTrue_L55] at h
            cases h
          | succ n_25 ih_26 =>
            intro v_23 σ_24 σ_30 h K_27
            rw [f_X11_isTrue_L55] at h
            refine g_iload X dX11_isTrue_55 4 rfl ?_
            refine g_iload_n X dX11_isTrue_57 rfl 2 rfl ?_
            refine g_icmp_ge X (tgt := 81) dX11_isTrue_58 (by decide) (fun hc_31 => ?_) (fun hc_31 => ?_)
            · have h := ift hc_31 h
              cases h
              exact g_sub [0, 1, 2, 3] rfl K_27
            · have h := iff_ hc_31 h
              refine g_aload_n X dX11_isTrue_61 rfl 0 rfl ?_
              refine g_get X (AD := A) mm0 (mE_0 cy A σ_24) hin11 rfl 26 (by decide) lk1 (fun _ h9 => h9) rfl dX11_isTrue_62 ?_
              refine g_iload X dX11_isTrue_65 4 rfl ?_
              refine g_aload_n X dX11_isTrue_67 rfl 0 rfl ?_
              refine g_get X (AD := A) mm0 (mE_0 cy A σ_24) hin11 rfl 11 (by decide) lk2 (fun _ h9 => h9) rfl dX11_isTrue_68 ?_
              refine g_iload X dX11_isTrue_71 4 rfl ?_
              obtain ⟨hg_32, h⟩ := grd_some h
              refine g_iald X (AD := A) mm12 (mE_12 cy A σ_24) 0 rfl hg_32 dX11_isTrue_73 ?_
              obtain ⟨hg_33, h⟩ := grd_some h
              refine g_iast X (AD := A) (σ' := sr σ_24 27 (upd (gr σ_24 27) v_23.toNatClampNeg (gr σ_24 12 v_23.toNatClampNeg))) mm27 (mE_27 cy A σ_24) 0 rfl hg_33 (sm_a27 cy A σ_24 (upd (gr σ_24 27) v_23.toNatClampNeg (gr σ_24 12 v_23.toNatClampNeg))) dX11_isTrue_74 ?_
              obtain ⟨σ_34, e_35, h⟩ := bnd_some h
              have e_35 := Option.some.inj e_35
              rw [e_35]
              refine g_iinc X dX11_isTrue_75 4 rfl (v := v_23 + (1 : Int32)) rfl (by decide) (lv' := [(4, .int (v_23 + (1 : Int32))), (0, .ref (A 0)), (1, .int c_20), (2, .int c_21), (3, .int c_22)]) rfl ?_
              refine g_goto X (tgt := 55) dX11_isTrue_78 (by decide) ?_
              exact g_sub [1, 2, 3, 4, 0] rfl (ih_26 _ _ _ h K_27)
        obtain ⟨σ_30, hl_36, h⟩ := bnd_some h
        refine g_sub [3, 4, 2, 1, 0] rfl (L_29 a1 (gr σ 6 a1.toNatClampNeg) (r_5 + r_18) FU (0 : Int32) σ_19 σ_30 hl_36 ?_)
        refine g_aload_n X dX11_isTrue_81 rfl 0 rfl ?_
        refine g_iload_n X dX11_isTrue_82 rfl 1 rfl ?_
        obtain ⟨σ_38, hf_37, h⟩ := bnd_some h
        refine g_callVV (AD := A) (As := [.int a1]) X (ZC_ok _ _ _ _ _) (m_X11_loads hf_37) (cwV 1 X.1.2.2.2.2 gX11_isTrue_X11_loads rfl rfl rfl (by decide +kernel) ⟨Nat.le_of_ble_eq_true rfl, Nat.le_of_ble_eq_true rfl⟩) rfl mm0 (mE_0 cy A σ_30) rfl rfl (Nat.le_of_ble_eq_true rfl) ⟨by decide, by decide⟩ dX11_isTrue_83 ?_
        refine g_iload_n X dX11_isTrue_86 rfl 3 rfl ?_
        refine g_aload_n X dX11_isTrue_87 rfl 0 rfl ?_
        refine g_iload_n X dX11_isTrue_88 rfl 2 rfl ?_
        refine g_iconst X dX11_isTrue_89 (v := (2 : Int32)) (by decide) ?_
        obtain ⟨r_40, σ_41, hf_39, h⟩ := bnd2_some h
        refine g_callVI (AD := A) (As := [.int (gr σ 6 a1.toNatClampNeg), .int (2 : Int32)]) X (ZC_ok _ _ _ _ _) (m_X11_sorts hf_39) (cwV 2 X.1.2.2.2.2 gX11_isTrue_X11_sorts rfl rfl rfl (by decide +kernel) ⟨Nat.le_of_ble_eq_true rfl, Nat.le_of_ble_eq_true rfl⟩) rfl mm0 (mE_0 cy A σ_38) rfl rfl (Nat.le_of_ble_eq_true rfl) ⟨by decide, by decide⟩ dX11_isTrue_90 ?_
        refine g_aload_n X dX11_isTrue_93 rfl 0 rfl ?_
        refine g_iload_n X dX11_isTrue_94 rfl 2 rfl ?_
        refine g_iconst X dX11_isTrue_95 (v := (0 : Int32)) (by decide) ?_
        obtain ⟨r_43, σ_44, hf_42, h⟩ := bnd2_some h
        refine g_callVI (AD := A) (As := [.int (gr σ 6 a1.toNatClampNeg), .int (0 : Int32)]) X (ZC_ok _ _ _ _ _) (m_X11_sorts hf_42) (cwV 2 X.1.2.2.2.2 gX11_isTrue_X11_sorts rfl rfl rfl (by decide +kernel) ⟨Nat.le_of_ble_eq_true rfl, Nat.le_of_ble_eq_true rfl⟩) rfl mm0 (mE_0 cy A σ_41) rfl rfl (Nat.le_of_ble_eq_true rfl) ⟨by decide, by decide⟩ dX11_isTrue_96 ?_
        refine g_iadd X dX11_isTrue_99 ?_
        refine g_iadd X dX11_isTrue_100 ?_
        refine g_istore_n X dX11_isTrue_101 rfl (by decide) (lv' := [(3, .int ((r_5 + r_18) + (r_40 + r_43))), (0, .ref (A 0)), (1, .int a1), (2, .int (gr σ 6 a1.toNatClampNeg))]) rfl ?_
        refine g_iconst X dX11_isTrue_102 (v := (0 : Int32)) (by decide) ?_
        refine g_istore X dX11_isTrue_103 (by decide) (lv' := [(4, .int (0 : Int32)), (3, .int ((r_5 + r_18) + (r_40 + r_43))), (0, .ref (A 0)), (1, .int a1), (2, .int (gr σ 6 a1.toNatClampNeg))]) rfl ?_
        have L_53 : ∀ (c_45 : Int32) (c_46 : Int32) (σ_48 : St) (n_49 : Nat) (v_47 : Int32) (o_59 : (Int32 × St) ⊕ (Unit)), f_X11_isTrue_L105 c_45 σ_48 n_49 v_47 = some o_59 → (∀ (u_54 : Unit), o_59 = .inr (u_54) → gG p l e ({ frames := 2, cells := 0, slots := 0, locals := 48 } : Room) s m args below meth c D (cyT cy) B 5 (eI D (cyT cy) (mW cy A X9) B below args s r σ') (mW cy A X9 σ_48) 0 0 136 [(3, .int c_46)] []) → (∀ r8, o_59 = .inl r8 → r8 = (r, σ')) → gG p l e ({ frames := 2, cells := 0, slots := 0, locals := 48 } : Room) s m args below meth c D (cyT cy) B 5 (eI D (cyT cy) (mW cy A X9) B below args s r σ') (mW cy A X9 σ_48) 0 0 105 [(0, .ref (A 0)), (2, .int c_45), (3, .int c_46), (4, .int v_47)] [] := by
          intro c_45 c_46 σ_48 n_49
          induction n_49 with
          | zero =>
            intro v_47 o_59 h K_51 K_52
            rw [f_X11_isTrue_L105] at h
            cases h
          | succ n_49 ih_50 =>
            intro v_47 o_59 h K_51 K_52
            rw [f_X11_isTrue_L105] at h
            refine g_iload X dX11_isTrue_105 3 rfl ?_
            refine g_iload_n X dX11_isTrue_107 rfl 1 rfl ?_
            refine g_icmp_ge X (tgt := 136) dX11_isTrue_108 (by decide) (fun hc_55 => ?_) (fun hc_55 => ?_)
            · have h := ift hc_55 h
              cases h
              exact g_sub [2] rfl (K_51 _ rfl)
            · have h := iff_ hc_55 h
              refine g_aload_n X dX11_isTrue_111 rfl 0 rfl ?_
              refine g_get X (AD := A) mm0 (mE_0 cy A σ_48) hin11 rfl 11 (by decide) lk2 (fun _ h9 => h9) rfl dX11_isTrue_112 ?_
              refine g_iload X dX11_isTrue_115 3 rfl ?_
              obtain ⟨hg_56, h⟩ := grd_some h
              refine g_iald X (AD := A) mm12 (mE_12 cy A σ_48) 0 rfl hg_56 dX11_isTrue_117 ?_
              refine g_aload_n X dX11_isTrue_118 rfl 0 rfl ?_
              refine g_get X (AD := A) mm0 (mE_0 cy A σ_48) hin11 rfl 26 (by decide) lk1 (fun _ h9 => h9) rfl dX11_isTrue_119 ?_
              refine g_iload X dX11_isTrue_122 3 rfl ?_
              obtain ⟨hg_57, h⟩ := grd_some h
              refine g_iald X (AD := A) mm27 (mE_27 cy A σ_48) 0 rfl hg_57 dX11_isTrue_124 ?_
              refine g_icmp_eq X (tgt := 130) dX11_isTrue_125 (by decide) (fun hc_58 => ?_) (fun hc_58 => ?_)
              · have h := ift hc_58 h
                refine g_iinc X dX11_isTrue_130 3 rfl (v := v_47 + (1 : Int32)) rfl (by decide) (lv' := [(4, .int (v_47 + (1 : Int32))), (0, .ref (A 0)), (2, .int c_45), (3, .int c_46)]) rfl ?_
                refine g_goto X (tgt := 105) dX11_isTrue_133 (by decide) ?_
                exact g_sub [1, 2, 3, 0] rfl (ih_50 _ _ h K_51 K_52)
              · have h := iff_ hc_58 h
                refine g_iconst X dX11_isTrue_128 (v := (0 : Int32)) (by decide) ?_
                cases h
                cases K_52 _ rfl
                exact g_zret (Wf := mW cy A X9) X rfl ⟨rfl, rfl⟩ dX11_isTrue_129
        rcases bndR_some h with ⟨r9, hl_60, he9⟩ | ⟨o9, hl_60, h⟩
        · exact g_sub [2, 4, 1, 0] rfl (L_53 (gr σ 6 a1.toNatClampNeg) ((r_5 + r_18) + (r_40 + r_43)) σ_44 FU (0 : Int32) (.inl r9) hl_60 (fun u_54 e9 => nomatch e9) (fun r8 e9 => by cases e9; exact he9))
        · obtain ⟨u_54, rfl⟩ : ∃ z, z = o9 := ⟨_, rfl⟩
          refine g_sub [2, 4, 1, 0] rfl (L_53 (gr σ 6 a1.toNatClampNeg) ((r_5 + r_18) + (r_40 + r_43)) σ_44 FU (0 : Int32) (.inr u_54) hl_60 (fun u_54z e9 => ?_) (fun r8 e9 => nomatch e9))
          cases e9
          refine g_iload_n X dX11_isTrue_136 rfl 0 rfl ?_
          obtain ⟨v_62, hj_65, h⟩ := bnd_some h
          have K_63 : gG p l e ({ frames := 2, cells := 0, slots := 0, locals := 48 } : Room) s m args below meth c D (cyT cy) B 5 (eI D (cyT cy) (mW cy A X9) B below args s r σ') (mW cy A X9 σ_44) 0 0 145 [] [.int v_62] := by
            obtain ⟨hg_64, h⟩ := grd_some h
            cases h
            exact g_zret (Wf := mW cy A X9) X (nar01 hg_64) ⟨rfl, rfl⟩ dX11_isTrue_145
          have h := hj_65
          clear hj_65
          refine g_if_lt X (tgt := 144) dX11_isTrue_137 (by decide) (fun hc_61 => ?_) (fun hc_61 => ?_)
          · have h := ift hc_61 h
            refine g_iconst X dX11_isTrue_144 (v := (0 : Int32)) (by decide) ?_
            cases h
            exact g_sub [] rfl K_63
          · have h := iff_ hc_61 h
            refine g_iconst X dX11_isTrue_140 (v := (1 : Int32)) (by decide) ?_
            refine g_goto X (tgt := 145) dX11_isTrue_141 (by decide) ?_
            cases h
            exact g_sub [] rfl K_63
      · have h := iff_ hc_14 h
        refine g_iconst X dX11_isTrue_36 (v := (0 : Int32)) (by decide) ?_
        cases h
        exact g_zret (Wf := mW cy A X9) X rfl ⟨rfl, rfl⟩ dX11_isTrue_37
  exact K0
set_option maxHeartbeats 8000000 in
set_option maxRecDepth 100000 in
theorem m_X11_errors {σ : St} {r : Int32} {σ' : St} (h : f_X11_errors σ = some (r, σ')) : mI (ZC aK aO aS aV aT) D (cyT cy) l yX11_errors wsX11_errors ({ frames := 3, cells := 0, slots := 0, locals := 72 } : Room) (mW cy A X9) [.ref (A 0)] σ r σ' := by
  unfold f_X11_errors at h
  refine mI_of (cc := cX11_errors) (maxL := 3) (ret := (some .int)) (by decide) rfl (Nat.le_of_ble_eq_true rfl) (fun p e s m args below meth c B X => ?_)
  have K0 : gG p l e ({ frames := 3, cells := 0, slots := 0, locals := 72 } : Room) s m args below meth c D (cyT cy) B 3 (eI D (cyT cy) (mW cy A X9) B below args s r σ') (mW cy A X9 σ) 0 0 0 [(0, .ref (A 0))] [] := by
    refine g_iconst X dX11_errors_0 (v := (0 : Int32)) (by decide) ?_
    refine g_istore_n X dX11_errors_1 rfl (by decide) (lv' := [(1, .int (0 : Int32)), (0, .ref (A 0))]) rfl ?_
    refine g_iconst X dX11_errors_2 (v := (0 : Int32)) (by decide) ?_
    refine g_istore_n X dX11_errors_3 rfl (by decide) (lv' := [(2, .int (0 : Int32)), (1, .int (0 : Int32)), (0, .ref (A 0))]) rfl ?_
    have L_8 : ∀ (n_4 : Nat) (v_1 : Int32) (v_2 : Int32) (σ_3 : St) (o_10 : Int32) (σ_9 : St), f_X11_errors_L4 n_4 v_1 v_2 σ_3 = some (o_10, σ_9) → gG p l e ({ frames := 3, cells := 0, slots := 0, locals := 72 } : Room) s m args below meth c D (cyT cy) B 3 (eI D (cyT cy) (mW cy A X9) B below args s r σ') (mW cy A X9 σ_9) 0 0 31 [(0, .ref (A 0)), (1, .int o_10)] [] → gG p l e ({ frames := 3, cells := 0, slots := 0, locals := 72 } : Room) s m args below meth c D (cyT cy) B 3 (eI D (cyT cy) (mW cy A X9) B below args s r σ') (mW cy A X9 σ_3) 0 0 4 [(0, .ref (A 0)), (1, .int v_1), (2, .int v_2)] [] := by
      intro n_4
      induction n_4 with
      | zero =>
        intro v_1 v_2 σ_3 o_10 σ_9 h K_6
        rw [f_X11_errors_L4] at h
        cases h
      | succ n_4 ih_5 =>
        intro v_1 v_2 σ_3 o_10 σ_9 h K_6
        rw [f_X11_errors_L4] at h
        refine g_iload_n X dX11_errors_4 rfl 2 rfl ?_
        refine g_iconst X dX11_errors_5 (v := (4 : Int32)) (by decide) ?_
        refine g_icmp_ge X (tgt := 31) dX11_errors_6 (by decide) (fun hc_11 => ?_) (fun hc_11 => ?_)
        · have h := ift hc_11 h
          cases h
          exact g_sub [0, 1] rfl K_6
        · have h := iff_ hc_11 h
          refine g_iload_n X dX11_errors_9 rfl 1 rfl ?_
          refine g_aload_n X dX11_errors_10 rfl 0 rfl ?_
          refine g_iload_n X dX11_errors_11 rfl 2 rfl ?_
          obtain ⟨r_13, σ_14, hf_12, h⟩ := bnd2_some h
          refine g_callVI (AD := A) (As := [.int v_2]) X (ZC_ok _ _ _ _ _) (m_X11_isTrue hf_12) (cwV 1 X.1.2.2.2.2 gX11_errors_X11_isTrue rfl rfl rfl (by decide +kernel) ⟨Nat.le_of_ble_eq_true rfl, Nat.le_of_ble_eq_true rfl⟩) rfl mm0 (mE_0 cy A σ_3) rfl rfl (Nat.le_of_ble_eq_true rfl) ⟨by decide, by decide⟩ dX11_errors_12 ?_
          obtain ⟨v_16, hj_18, h⟩ := bnd_some h
          have K_17 : gG p l e ({ frames := 3, cells := 0, slots := 0, locals := 72 } : Room) s m args below meth c D (cyT cy) B 3 (eI D (cyT cy) (mW cy A X9) B below args s r σ') (mW cy A X9 σ_14) 0 0 23 [(0, .ref (A 0)), (2, .int v_2)] [.int v_16, .int v_1] := by
            refine g_iadd X dX11_errors_23 ?_
            refine g_istore_n X dX11_errors_24 rfl (by decide) (lv' := [(1, .int (v_1 + v_16)), (0, .ref (A 0)), (2, .int v_2)]) rfl ?_
            refine g_iinc X dX11_errors_25 2 rfl (v := v_2 + (1 : Int32)) rfl (by decide) (lv' := [(2, .int (v_2 + (1 : Int32))), (1, .int (v_1 + v_16)), (0, .ref (A 0))]) rfl ?_
            refine g_goto X (tgt := 4) dX11_errors_28 (by decide) ?_
            exact g_sub [2, 1, 0] rfl (ih_5 _ _ _ _ _ h K_6)
          have h := hj_18
          clear hj_18
          refine g_if_eq X (tgt := 22) dX11_errors_15 (by decide) (fun hc_15 => ?_) (fun hc_15 => ?_)
          · have h := ift hc_15 h
            refine g_iconst X dX11_errors_22 (v := (1 : Int32)) (by decide) ?_
            cases h
            exact g_sub [0, 2] rfl K_17
          · have h := iff_ hc_15 h
            refine g_iconst X dX11_errors_18 (v := (0 : Int32)) (by decide) ?_
            refine g_goto X (tgt := 23) dX11_errors_19 (by decide) ?_
            cases h
            exact g_sub [0, 2] rfl K_17
    obtain ⟨o_10, σ_9, hl_19, h⟩ := bnd2_some h
    refine g_sub [2, 1, 0] rfl (L_8 FU (0 : Int32) (0 : Int32) σ o_10 σ_9 hl_19 ?_)
    refine g_aload_n X dX11_errors_31 rfl 0 rfl ?_
    refine g_iload_n X dX11_errors_32 rfl 1 rfl ?_
    obtain ⟨r_21, σ_22, hf_20, h⟩ := bnd2_some h
    refine g_callVI (AD := A) (As := [.int o_10]) X (ZC_ok _ _ _ _ _) (m_X11_told hf_20) (cwV 1 X.1.2.2.2.2 gX11_errors_X11_told rfl rfl rfl (by decide +kernel) ⟨Nat.le_of_ble_eq_true rfl, Nat.le_of_ble_eq_true rfl⟩) rfl mm0 (mE_0 cy A σ_9) rfl rfl (Nat.le_of_ble_eq_true rfl) ⟨by decide, by decide⟩ dX11_errors_33 ?_
    cases h
    exact g_iret (Wf := mW cy A X9) X ⟨rfl, rfl⟩ dX11_errors_36
  exact K0
end MV
