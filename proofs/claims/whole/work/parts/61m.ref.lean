section MV
variable {D : va_G} {cy : Nat → ClassId} {A aK aO aS aV aT : Nat → Nat} {l : Launch} {X9 : va_W}
set_option maxHeartbeats 8000000 in
set_option maxRecDepth 100000 in
theorem m_X11_runs {σ : St} {a1 : Int32} {r : Int32} {σ' : St} (h : f_X11_runs a1 σ = some (r, σ')) : mI (ZC aK aO aS aV aT) D (cyT cy) l yX11_runs wsX11_runs ({ frames := 3, cells := 0, slots := 0, locals := 67 } : Room) (mW cy A X9) [.ref (A 0), .int a1] σ r σ' := by
  unfold f_X11_runs at h
  refine mI_of (cc := cX11_runs) (maxL := 2) (ret := (some .int)) (by decide) rfl (Nat.le_of_ble_eq_true rfl) (fun p e s m args below meth c B X => ?_)
  have K0 : gG p l e ({ frames := 3, cells := 0, slots := 0, locals := 67 } : Room) s m args below meth c D (cyT cy) B 2 (eI D (cyT cy) (mW cy A X9) B below args s r σ') (mW cy A X9 σ) 0 0 0 [(0, .ref (A 0)), (1, .int a1)] [] := by
    refine g_iload_n X dX11_runs_0 rfl 1 rfl ?_
    obtain ⟨r_2, hf_1, h⟩ := bnd_some h
    refine g_callSI (AD := A) (As := [.int a1]) X (ZC_ok _ _ _ _ _) (m_X11_isRow hf_1) (va_cwS 1 X.1.2.2.2.2 gX11_runs_X11_isRow rfl rfl rfl (by decide +kernel) ⟨Nat.le_of_ble_eq_true rfl, Nat.le_of_ble_eq_true rfl⟩) rfl rfl (Nat.le_of_ble_eq_true rfl) ⟨by decide, by decide⟩ dX11_runs_1 ?_
    obtain ⟨v_4, σ_5, hj_15, h⟩ := bnd2_some h
    have K_6 : gG p l e ({ frames := 3, cells := 0, slots := 0, locals := 67 } : Room) s m args below meth c D (cyT cy) B 2 (eI D (cyT cy) (mW cy A X9) B below args s r σ') (mW cy A X9 σ_5) 0 0 24 [] [.int v_4] := by
      cases h
      exact g_iret (Wf := mW cy A X9) X ⟨rfl, rfl⟩ dX11_runs_24
    have h := hj_15
    clear hj_15
    refine g_if_eq X (tgt := 19) dX11_runs_4 (by decide) (fun hc_3 => ?_) (fun hc_3 => ?_)
    · have h := ift hc_3 h
      refine g_aload_n X dX11_runs_19 rfl 0 rfl ?_
      refine g_iconst X dX11_runs_20 (v := (1 : Int32)) (by decide) ?_
      obtain ⟨r_8, σ_9, hf_7, h⟩ := bnd2_some h
      refine g_callVI (AD := A) (As := [.int (1 : Int32)]) X (ZC_ok _ _ _ _ _) (m_X11_refuse hf_7) (cwV 1 X.1.2.2.2.2 gX11_runs_X11_refuse rfl rfl rfl (by decide +kernel) ⟨Nat.le_of_ble_eq_true rfl, Nat.le_of_ble_eq_true rfl⟩) rfl mm0 (mE_0 cy A σ) rfl rfl (Nat.le_of_ble_eq_true rfl) ⟨by decide, by decide⟩ dX11_runs_21 ?_
      cases h
      exact g_sub [] rfl K_6
    · have h := iff_ hc_3 h
      refine g_aload_n X dX11_runs_7 rfl 0 rfl ?_
      refine g_aload_n X dX11_runs_8 rfl 0 rfl ?_
      refine g_iload_n X dX11_runs_9 rfl 1 rfl ?_
      obtain ⟨r_11, hf_10, h⟩ := bnd_some h
      refine g_callVI (AD := A) (As := [.int a1]) X (ZC_ok _ _ _ _ _) (m_X11_runsOf hf_10) (cwV 1 X.1.2.2.2.2 gX11_runs_X11_runsOf rfl rfl rfl (by decide +kernel) ⟨Nat.le_of_ble_eq_true rfl, Nat.le_of_ble_eq_true rfl⟩) rfl mm0 (mE_0 cy A σ) rfl rfl (Nat.le_of_ble_eq_true rfl) ⟨by decide, by decide⟩ dX11_runs_10 ?_
      obtain ⟨r_13, σ_14, hf_12, h⟩ := bnd2_some h
      refine g_callVI (AD := A) (As := [.int r_11]) X (ZC_ok _ _ _ _ _) (m_X11_told hf_12) (cwV 1 X.1.2.2.2.2 gX11_runs_X11_told rfl rfl rfl (by decide +kernel) ⟨Nat.le_of_ble_eq_true rfl, Nat.le_of_ble_eq_true rfl⟩) rfl mm0 (mE_0 cy A σ) rfl rfl (Nat.le_of_ble_eq_true rfl) ⟨by decide, by decide⟩ dX11_runs_13 ?_
      refine g_goto X (tgt := 24) dX11_runs_16 (by decide) ?_
      cases h
      exact g_sub [] rfl K_6
  exact K0
set_option maxHeartbeats 8000000 in
set_option maxRecDepth 100000 in
theorem m_X11_longestRun {σ : St} {a1 : Int32} {r : Int32} {σ' : St} (h : f_X11_longestRun a1 σ = some (r, σ')) : mI (ZC aK aO aS aV aT) D (cyT cy) l yX11_longestRun wsX11_longestRun ({ frames := 3, cells := 0, slots := 0, locals := 68 } : Room) (mW cy A X9) [.ref (A 0), .int a1] σ r σ' := by
  unfold f_X11_longestRun at h
  refine mI_of (cc := cX11_longestRun) (maxL := 2) (ret := (some .int)) (by decide) rfl (Nat.le_of_ble_eq_true rfl) (fun p e s m args below meth c B X => ?_)
  have K0 : gG p l e ({ frames := 3, cells := 0, slots := 0, locals := 68 } : Room) s m args below meth c D (cyT cy) B 2 (eI D (cyT cy) (mW cy A X9) B below args s r σ') (mW cy A X9 σ) 0 0 0 [(0, .ref (A 0)), (1, .int a1)] [] := by
    refine g_iload_n X dX11_longestRun_0 rfl 1 rfl ?_
    obtain ⟨r_2, hf_1, h⟩ := bnd_some h
    refine g_callSI (AD := A) (As := [.int a1]) X (ZC_ok _ _ _ _ _) (m_X11_isRow hf_1) (va_cwS 1 X.1.2.2.2.2 gX11_longestRun_X11_isRow rfl rfl rfl (by decide +kernel) ⟨Nat.le_of_ble_eq_true rfl, Nat.le_of_ble_eq_true rfl⟩) rfl rfl (Nat.le_of_ble_eq_true rfl) ⟨by decide, by decide⟩ dX11_longestRun_1 ?_
    obtain ⟨v_4, σ_5, hj_15, h⟩ := bnd2_some h
    have K_6 : gG p l e ({ frames := 3, cells := 0, slots := 0, locals := 68 } : Room) s m args below meth c D (cyT cy) B 2 (eI D (cyT cy) (mW cy A X9) B below args s r σ') (mW cy A X9 σ_5) 0 0 24 [] [.int v_4] := by
      cases h
      exact g_iret (Wf := mW cy A X9) X ⟨rfl, rfl⟩ dX11_longestRun_24
    have h := hj_15
    clear hj_15
    refine g_if_eq X (tgt := 19) dX11_longestRun_4 (by decide) (fun hc_3 => ?_) (fun hc_3 => ?_)
    · have h := ift hc_3 h
      refine g_aload_n X dX11_longestRun_19 rfl 0 rfl ?_
      refine g_iconst X dX11_longestRun_20 (v := (1 : Int32)) (by decide) ?_
      obtain ⟨r_8, σ_9, hf_7, h⟩ := bnd2_some h
      refine g_callVI (AD := A) (As := [.int (1 : Int32)]) X (ZC_ok _ _ _ _ _) (m_X11_refuse hf_7) (cwV 1 X.1.2.2.2.2 gX11_longestRun_X11_refuse rfl rfl rfl (by decide +kernel) ⟨Nat.le_of_ble_eq_true rfl, Nat.le_of_ble_eq_true rfl⟩) rfl mm0 (mE_0 cy A σ) rfl rfl (Nat.le_of_ble_eq_true rfl) ⟨by decide, by decide⟩ dX11_longestRun_21 ?_
      cases h
      exact g_sub [] rfl K_6
    · have h := iff_ hc_3 h
      refine g_aload_n X dX11_longestRun_7 rfl 0 rfl ?_
      refine g_aload_n X dX11_longestRun_8 rfl 0 rfl ?_
      refine g_iload_n X dX11_longestRun_9 rfl 1 rfl ?_
      obtain ⟨r_11, hf_10, h⟩ := bnd_some h
      refine g_callVI (AD := A) (As := [.int a1]) X (ZC_ok _ _ _ _ _) (m_X11_longestOf hf_10) (cwV 1 X.1.2.2.2.2 gX11_longestRun_X11_longestOf rfl rfl rfl (by decide +kernel) ⟨Nat.le_of_ble_eq_true rfl, Nat.le_of_ble_eq_true rfl⟩) rfl mm0 (mE_0 cy A σ) rfl rfl (Nat.le_of_ble_eq_true rfl) ⟨by decide, by decide⟩ dX11_longestRun_10 ?_
      obtain ⟨r_13, σ_14, hf_12, h⟩ := bnd2_some h
      refine g_callVI (AD := A) (As := [.int r_11]) X (ZC_ok _ _ _ _ _) (m_X11_told hf_12) (cwV 1 X.1.2.2.2.2 gX11_longestRun_X11_told rfl rfl rfl (by decide +kernel) ⟨Nat.le_of_ble_eq_true rfl, Nat.le_of_ble_eq_true rfl⟩) rfl mm0 (mE_0 cy A σ) rfl rfl (Nat.le_of_ble_eq_true rfl) ⟨by decide, by decide⟩ dX11_longestRun_13 ?_
      refine g_goto X (tgt := 24) dX11_longestRun_16 (by decide) ?_
      cases h
      exact g_sub [] rfl K_6
  exact K0
set_option maxHeartbeats 8000000 in
set_option maxRecDepth 100000 in
theorem m_X11_wrongPairs {σ : St} {a1 : Int32} {r : Int32} {σ' : St} (h : f_X11_wrongPairs a1 σ = some (r, σ')) : mI (ZC aK aO aS aV aT) D (cyT cy) l yX11_wrongPairs wsX11_wrongPairs ({ frames := 2, cells := 0, slots := 0, locals := 42 } : Room) (mW cy A X9) [.ref (A 0), .int a1] σ r σ' := by
  unfold f_X11_wrongPairs at h
  refine mI_of (cc := cX11_wrongPairs) (maxL := 5) (ret := (some .int)) (by decide) rfl (Nat.le_of_ble_eq_true rfl) (fun p e s m args below meth c B X => ?_)
  have hin11 : ∀ w ∈ wsX110, w ∈ wsX11_wrongPairs := by decide +kernel
  have lk0 : Cond.fieldLink RX11 22 "CardcabinetModel" "many" "[I" ∈ wsX11_wrongPairs := by decide +kernel
  have K0 : gG p l e ({ frames := 2, cells := 0, slots := 0, locals := 42 } : Room) s m args below meth c D (cyT cy) B 5 (eI D (cyT cy) (mW cy A X9) B below args s r σ') (mW cy A X9 σ) 0 0 0 [(0, .ref (A 0)), (1, .int a1)] [] := by
    refine g_iload_n X dX11_wrongPairs_0 rfl 1 rfl ?_
    obtain ⟨r_2, hf_1, h⟩ := bnd_some h
    refine g_callSI (AD := A) (As := [.int a1]) X (ZC_ok _ _ _ _ _) (m_X11_isRow hf_1) (va_cwS 1 X.1.2.2.2.2 gX11_wrongPairs_X11_isRow rfl rfl rfl (by decide +kernel) ⟨Nat.le_of_ble_eq_true rfl, Nat.le_of_ble_eq_true rfl⟩) rfl rfl (Nat.le_of_ble_eq_true rfl) ⟨by decide, by decide⟩ dX11_wrongPairs_1 ?_
    refine g_if_ne X (tgt := 13) dX11_wrongPairs_4 (by decide) (fun hc_3 => ?_) (fun hc_3 => ?_)
    · have h := iff_ hc_3 h
      refine g_iconst X dX11_wrongPairs_13 (v := (0 : Int32)) (by decide) ?_
      refine g_istore_n X dX11_wrongPairs_14 rfl (by decide) (lv' := [(2, .int (0 : Int32)), (0, .ref (A 0)), (1, .int a1)]) rfl ?_
      refine g_iconst X dX11_wrongPairs_15 (v := (0 : Int32)) (by decide) ?_
      refine g_istore_n X dX11_wrongPairs_16 rfl (by decide) (lv' := [(3, .int (0 : Int32)), (2, .int (0 : Int32)), (0, .ref (A 0)), (1, .int a1)]) rfl ?_
      have L_12 : ∀ (c_4 : Int32) (σ_7 : St) (n_8 : Nat) (v_5 : Int32) (v_6 : Int32) (o_13 : Int32), f_X11_wrongPairs_L17 c_4 σ_7 n_8 v_5 v_6 = some (o_13) → gG p l e ({ frames := 2, cells := 0, slots := 0, locals := 42 } : Room) s m args below meth c D (cyT cy) B 5 (eI D (cyT cy) (mW cy A X9) B below args s r σ') (mW cy A X9 σ_7) 0 0 72 [(0, .ref (A 0)), (2, .int o_13)] [] → gG p l e ({ frames := 2, cells := 0, slots := 0, locals := 42 } : Room) s m args below meth c D (cyT cy) B 5 (eI D (cyT cy) (mW cy A X9) B below args s r σ') (mW cy A X9 σ_7) 0 0 17 [(0, .ref (A 0)), (1, .int c_4), (2, .int v_5), (3, .int v_6)] [] := by
        intro c_4 σ_7 n_8
        induction n_8 with
        | zero =>
          intro v_5 v_6 o_13 h K_10
          rw [f_X11_wrongPairs_L17] at h
          cases h
        | succ n_8 ih_9 =>
          intro v_5 v_6 o_13 h K_10
          rw [f_X11_wrongPairs_L17] at h
          refine g_iload_n X dX11_wrongPairs_17 rfl 3 rfl ?_
          refine g_aload_n X dX11_wrongPairs_18 rfl 0 rfl ?_
          refine g_get X (AD := A) mm0 (mE_0 cy A σ_7) hin11 rfl 5 (by decide) lk0 (fun _ h9 => h9) rfl dX11_wrongPairs_19 ?_
          refine g_iload_n X dX11_wrongPairs_22 rfl 1 rfl ?_
          obtain ⟨hg_14, h⟩ := grd_some h
          refine g_iald X (AD := A) mm6 (mE_6 cy A σ_7) 0 rfl hg_14 dX11_wrongPairs_23 ?_
          refine g_icmp_ge X (tgt := 72) dX11_wrongPairs_24 (by decide) (fun hc_15 => ?_) (fun hc_15 => ?_)
          · have h := ift hc_15 h
            cases h
            exact g_sub [0, 2] rfl K_10
          · have h := iff_ hc_15 h
            refine g_iconst X dX11_wrongPairs_27 (v := (0 : Int32)) (by decide) ?_
            refine g_istore X dX11_wrongPairs_28 (by decide) (lv' := [(4, .int (0 : Int32)), (0, .ref (A 0)), (1, .int c_4), (2, .int v_5), (3, .int v_6)]) rfl ?_
            have L_25 : ∀ (c_16 : Int32) (c_18 : Int32) (σ_20 : St) (n_21 : Nat) (v_17 : Int32) (v_19 : Int32) (o_26 : Int32), f_X11_wrongPairs_L30 c_16 c_18 σ_20 n_21 v_17 v_19 = some (o_26) → gG p l e ({ frames := 2, cells := 0, slots := 0, locals := 42 } : Room) s m args below meth c D (cyT cy) B 5 (eI D (cyT cy) (mW cy A X9) B below args s r σ') (mW cy A X9 σ_20) 0 0 66 [(0, .ref (A 0)), (1, .int c_16), (2, .int o_26), (3, .int c_18)] [] → gG p l e ({ frames := 2, cells := 0, slots := 0, locals := 42 } : Room) s m args below meth c D (cyT cy) B 5 (eI D (cyT cy) (mW cy A X9) B below args s r σ') (mW cy A X9 σ_20) 0 0 30 [(0, .ref (A 0)), (1, .int c_16), (2, .int v_17), (3, .int c_18), (4, .int v_19)] [] := by
              intro c_16 c_18 σ_20 n_21
              induction n_21 with
              | zero =>
                intro v_17 v_19 o_26 h K_23
                rw [f_X11_wrongPairs_L30] at h
                cases h
              | succ n_21 ih_22 =>
                intro v_17 v_19 o_26 h K_23
                rw [f_X11_wrongPairs_L30] at h
                refine g_iload X dX11_wrongPairs_30 4 rfl ?_
                refine g_iload_n X dX11_wrongPairs_32 rfl 3 rfl ?_
                refine g_icmp_ge X (tgt := 66) dX11_wrongPairs_33 (by decide) (fun hc_27 => ?_) (fun hc_27 => ?_)
                · have h := ift hc_27 h
                  cases h
                  exact g_sub [0, 1, 2, 3] rfl K_23
                · have h := iff_ hc_27 h
                  refine g_iload_n X dX11_wrongPairs_36 rfl 2 rfl ?_
                  refine g_aload_n X dX11_wrongPairs_37 rfl 0 rfl ?_
                  refine g_iload_n X dX11_wrongPairs_38 rfl 1 rfl ?_
                  refine g_iload X dX11_wrongPairs_39 4 rfl ?_
                  obtain ⟨r_29, hf_28, h⟩ := bnd_some h
                  refine g_callVI (AD := A) (As := [.int c_16, .int v_19]) X (ZC_ok _ _ _ _ _) (m_X11_firstAt hf_28) (cwV 2 X.1.2.2.2.2 gX11_wrongPairs_X11_firstAt rfl rfl rfl (by decide +kernel) ⟨Nat.le_of_ble_eq_true rfl, Nat.le_of_ble_eq_true rfl⟩) rfl mm0 (mE_0 cy A σ_20) rfl rfl (Nat.le_of_ble_eq_true rfl) ⟨by decide, by decide⟩ dX11_wrongPairs_41 ?_
                  refine g_aload_n X dX11_wrongPairs_44 rfl 0 rfl ?_
                  refine g_iload_n X dX11_wrongPairs_45 rfl 1 rfl ?_
                  refine g_iload_n X dX11_wrongPairs_46 rfl 3 rfl ?_
                  obtain ⟨r_31, hf_30, h⟩ := bnd_some h
                  refine g_callVI (AD := A) (As := [.int c_16, .int c_18]) X (ZC_ok _ _ _ _ _) (m_X11_firstAt hf_30) (cwV 2 X.1.2.2.2.2 gX11_wrongPairs_X11_firstAt rfl rfl rfl (by decide +kernel) ⟨Nat.le_of_ble_eq_true rfl, Nat.le_of_ble_eq_true rfl⟩) rfl mm0 (mE_0 cy A σ_20) rfl rfl (Nat.le_of_ble_eq_true rfl) ⟨by decide, by decide⟩ dX11_wrongPairs_47 ?_
                  obtain ⟨v_33, hj_35, h⟩ := bnd_some h
                  have K_34 : gG p l e ({ frames := 2, cells := 0, slots := 0, locals := 42 } : Room) s m args below meth c D (cyT cy) B 5 (eI D (cyT cy) (mW cy A X9) B below args s r σ') (mW cy A X9 σ_20) 0 0 58 [(0, .ref (A 0)), (1, .int c_16), (3, .int c_18), (4, .int v_19)] [.int v_33, .int v_17] := by
                    refine g_iadd X dX11_wrongPairs_58 ?_
                    refine g_istore_n X dX11_wrongPairs_59 rfl (by decide) (lv' := [(2, .int (v_17 + v_33)), (0, .ref (A 0)), (1, .int c_16), (3, .int c_18), (4, .int v_19)]) rfl ?_
                    refine g_iinc X dX11_wrongPairs_60 4 rfl (v := v_19 + (1 : Int32)) rfl (by decide) (lv' := [(4, .int (v_19 + (1 : Int32))), (2, .int (v_17 + v_33)), (0, .ref (A 0)), (1, .int c_16), (3, .int c_18)]) rfl ?_
                    refine g_goto X (tgt := 30) dX11_wrongPairs_63 (by decide) ?_
                    exact g_sub [2, 3, 1, 4, 0] rfl (ih_22 _ _ _ h K_23)
                  have h := hj_35
                  clear hj_35
                  refine g_icmp_le X (tgt := 57) dX11_wrongPairs_50 (by decide) (fun hc_32 => ?_) (fun hc_32 => ?_)
                  · have h := ift hc_32 h
                    refine g_iconst X dX11_wrongPairs_57 (v := (0 : Int32)) (by decide) ?_
                    cases h
                    exact g_sub [0, 1, 3, 4] rfl K_34
                  · have h := iff_ hc_32 h
                    refine g_iconst X dX11_wrongPairs_53 (v := (1 : Int32)) (by decide) ?_
                    refine g_goto X (tgt := 58) dX11_wrongPairs_54 (by decide) ?_
                    cases h
                    exact g_sub [0, 1, 3, 4] rfl K_34
            obtain ⟨o_26, hl_36, h⟩ := bnd_some h
            refine g_sub [1, 2, 3, 4, 0] rfl (L_25 c_4 v_6 σ_7 FU v_5 (0 : Int32) o_26 hl_36 ?_)
            refine g_iinc X dX11_wrongPairs_66 3 rfl (v := v_6 + (1 : Int32)) rfl (by decide) (lv' := [(3, .int (v_6 + (1 : Int32))), (0, .ref (A 0)), (1, .int c_4), (2, .int o_26)]) rfl ?_
            refine g_goto X (tgt := 17) dX11_wrongPairs_69 (by decide) ?_
            exact g_sub [1, 2, 3, 0] rfl (ih_9 _ _ _ h K_10)
      obtain ⟨o_13, hl_37, h⟩ := bnd_some h
      refine g_sub [2, 3, 1, 0] rfl (L_12 a1 σ FU (0 : Int32) (0 : Int32) o_13 hl_37 ?_)
      refine g_aload_n X dX11_wrongPairs_72 rfl 0 rfl ?_
      refine g_iload_n X dX11_wrongPairs_73 rfl 1 rfl ?_
      obtain ⟨r_39, σ_40, hf_38, h⟩ := bnd2_some h
      refine g_callVI (AD := A) (As := [.int o_13]) X (ZC_ok _ _ _ _ _) (m_X11_told hf_38) (cwV 1 X.1.2.2.2.2 gX11_wrongPairs_X11_told rfl rfl rfl (by decide +kernel) ⟨Nat.le_of_ble_eq_true rfl, Nat.le_of_ble_eq_true rfl⟩) rfl mm0 (mE_0 cy A σ) rfl rfl (Nat.le_of_ble_eq_true rfl) ⟨by decide, by decide⟩ dX11_wrongPairs_74 ?_
      cases h
      exact g_iret (Wf := mW cy A X9) X ⟨rfl, rfl⟩ dX11_wrongPairs_77
    · have h := ift hc_3 h
      refine g_aload_n X dX11_wrongPairs_7 rfl 0 rfl ?_
      refine g_iconst X dX11_wrongPairs_8 (v := (1 : Int32)) (by decide) ?_
      obtain ⟨r_42, σ_43, hf_41, h⟩ := bnd2_some h
      refine g_callVI (AD := A) (As := [.int (1 : Int32)]) X (ZC_ok _ _ _ _ _) (m_X11_refuse hf_41) (cwV 1 X.1.2.2.2.2 gX11_wrongPairs_X11_refuse rfl rfl rfl (by decide +kernel) ⟨Nat.le_of_ble_eq_true rfl, Nat.le_of_ble_eq_true rfl⟩) rfl mm0 (mE_0 cy A σ) rfl rfl (Nat.le_of_ble_eq_true rfl) ⟨by decide, by decide⟩ dX11_wrongPairs_9 ?_
      cases h
      exact g_iret (Wf := mW cy A X9) X ⟨rfl, rfl⟩ dX11_wrongPairs_12
  exact K0
set_option maxHeartbeats 8000000 in
set_option maxRecDepth 100000 in
theorem m_X11_unlike {σ : St} {a1 : Int32} {r : Int32} {σ' : St} (h : f_X11_unlike a1 σ = some (r, σ')) : mI (ZC aK aO aS aV aT) D (cyT cy) l yX11_unlike wsX11_unlike ({ frames := 2, cells := 0, slots := 0, locals := 42 } : Room) (mW cy A X9) [.ref (A 0), .int a1] σ r σ' := by
  unfold f_X11_unlike at h
  refine mI_of (cc := cX11_unlike) (maxL := 6) (ret := (some .int)) (by decide) rfl (Nat.le_of_ble_eq_true rfl) (fun p e s m args below meth c B X => ?_)
  have hin11 : ∀ w ∈ wsX110, w ∈ wsX11_unlike := by decide +kernel
  have lk0 : Cond.fieldLink RX11 22 "CardcabinetModel" "many" "[I" ∈ wsX11_unlike := by decide +kernel
  have K0 : gG p l e ({ frames := 2, cells := 0, slots := 0, locals := 42 } : Room) s m args below meth c D (cyT cy) B 6 (eI D (cyT cy) (mW cy A X9) B below args s r σ') (mW cy A X9 σ) 0 0 0 [(0, .ref (A 0)), (1, .int a1)] [] := by
    refine g_iload_n X dX11_unlike_0 rfl 1 rfl ?_
    obtain ⟨r_2, hf_1, h⟩ := bnd_some h
    refine g_callSI (AD := A) (As := [.int a1]) X (ZC_ok _ _ _ _ _) (m_X11_isRow hf_1) (va_cwS 1 X.1.2.2.2.2 gX11_unlike_X11_isRow rfl rfl rfl (by decide +kernel) ⟨Nat.le_of_ble_eq_true rfl, Nat.le_of_ble_eq_true rfl⟩) rfl rfl (Nat.le_of_ble_eq_true rfl) ⟨by decide, by decide⟩ dX11_unlike_1 ?_
    refine g_if_ne X (tgt := 13) dX11_unlike_4 (by decide) (fun hc_3 => ?_) (fun hc_3 => ?_)
    · have h := iff_ hc_3 h
      refine g_iconst X dX11_unlike_13 (v := (0 : Int32)) (by decide) ?_
      refine g_istore_n X dX11_unlike_14 rfl (by decide) (lv' := [(2, .int (0 : Int32)), (0, .ref (A 0)), (1, .int a1)]) rfl ?_
      refine g_iconst X dX11_unlike_15 (v := (0 : Int32)) (by decide) ?_
      refine g_istore_n X dX11_unlike_16 rfl (by decide) (lv' := [(3, .int (0 : Int32)), (2, .int (0 : Int32)), (0, .ref (A 0)), (1, .int a1)]) rfl ?_
      have L_12 : ∀ (c_4 : Int32) (σ_7 : St) (n_8 : Nat) (v_5 : Int32) (v_6 : Int32) (o_13 : Int32), f_X11_unlike_L17 c_4 σ_7 n_8 v_5 v_6 = some (o_13) → gG p l e ({ frames := 2, cells := 0, slots := 0, locals := 42 } : Room) s m args below meth c D (cyT cy) B 6 (eI D (cyT cy) (mW cy A X9) B below args s r σ') (mW cy A X9 σ_7) 0 0 92 [(0, .ref (A 0)), (2, .int o_13)] [] → gG p l e ({ frames := 2, cells := 0, slots := 0, locals := 42 } : Room) s m args below meth c D (cyT cy) B 6 (eI D (cyT cy) (mW cy A X9) B below args s r σ') (mW cy A X9 σ_7) 0 0 17 [(0, .ref (A 0)), (1, .int c_4), (2, .int v_5), (3, .int v_6)] [] := by
        intro c_4 σ_7 n_8
        induction n_8 with
        | zero =>
          intro v_5 v_6 o_13 h K_10
          rw [f_X11_unlike_L17] at h
          cases h
        | succ n_8 ih_9 =>
          intro v_5 v_6 o_13 h K_10
          rw [f_X11_unlike_L17] at h
          refine g_iload_n X dX11_unlike_17 rfl 3 rfl ?_
          refine g_aload_n X dX11_unlike_18 rfl 0 rfl ?_
          refine g_get X (AD := A) mm0 (mE_0 cy A σ_7) hin11 rfl 5 (by decide) lk0 (fun _ h9 => h9) rfl dX11_unlike_19 ?_
          refine g_iload_n X dX11_unlike_22 rfl 1 rfl ?_
          obtain ⟨hg_14, h⟩ := grd_some h
          refine g_iald X (AD := A) mm6 (mE_6 cy A σ_7) 0 rfl hg_14 dX11_unlike_23 ?_
          refine g_icmp_ge X (tgt := 92) dX11_unlike_24 (by decide) (fun hc_15 => ?_) (fun hc_15 => ?_)
          · have h := ift hc_15 h
            cases h
            exact g_sub [0, 2] rfl K_10
          · have h := iff_ hc_15 h
            refine g_iconst X dX11_unlike_27 (v := (1 : Int32)) (by decide) ?_
            refine g_istore X dX11_unlike_28 (by decide) (lv' := [(4, .int (1 : Int32)), (0, .ref (A 0)), (1, .int c_4), (2, .int v_5), (3, .int v_6)]) rfl ?_
            refine g_iconst X dX11_unlike_30 (v := (0 : Int32)) (by decide) ?_
            refine g_istore X dX11_unlike_31 (by decide) (lv' := [(5, .int (0 : Int32)), (4, .int (1 : Int32)), (0, .ref (A 0)), (1, .int c_4), (2, .int v_5), (3, .int v_6)]) rfl ?_
            have L_26 : ∀ (c_16 : Int32) (c_17 : Int32) (c_18 : Int32) (σ_21 : St) (n_22 : Nat) (v_19 : Int32) (v_20 : Int32) (o_27 : Int32), f_X11_unlike_L33 c_16 c_18 σ_21 n_22 v_19 v_20 = some (o_27) → gG p l e ({ frames := 2, cells := 0, slots := 0, locals := 42 } : Room) s m args below meth c D (cyT cy) B 6 (eI D (cyT cy) (mW cy A X9) B below args s r σ') (mW cy A X9 σ_21) 0 0 73 [(0, .ref (A 0)), (1, .int c_16), (2, .int c_17), (3, .int c_18), (4, .int o_27)] [] → gG p l e ({ frames := 2, cells := 0, slots := 0, locals := 42 } : Room) s m args below meth c D (cyT cy) B 6 (eI D (cyT cy) (mW cy A X9) B below args s r σ') (mW cy A X9 σ_21) 0 0 33 [(0, .ref (A 0)), (1, .int c_16), (2, .int c_17), (3, .int c_18), (4, .int v_19), (5, .int v_20)] [] := by
              intro c_16 c_17 c_18 σ_21 n_22
              induction n_22 with
              | zero =>
                intro v_19 v_20 o_27 h K_24
                rw [f_X11_unlike_L33] at h
                cases h
              | succ n_22 ih_23 =>
                intro v_19 v_20 o_27 h K_24
                rw [f_X11_unlike_L33] at h
                refine g_iload X dX11_unlike_33 5 rfl ?_
                refine g_iload_n X dX11_unlike_35 rfl 3 rfl ?_
                refine g_icmp_ge X (tgt := 73) dX11_unlike_36 (by decide) (fun hc_28 => ?_) (fun hc_28 => ?_)
                · have h := ift hc_28 h
                  cases h
                  exact g_sub [0, 1, 2, 3, 4] rfl K_24
                · have h := iff_ hc_28 h
                  refine g_iload X dX11_unlike_39 4 rfl ?_
                  refine g_if_eq X (tgt := 73) dX11_unlike_41 (by decide) (fun hc_29 => ?_) (fun hc_29 => ?_)
                  · have h := ift hc_29 h
                    cases h
                    exact g_sub [0, 1, 2, 3, 4] rfl K_24
                  · have h := iff_ hc_29 h
                    refine g_aload_n X dX11_unlike_44 rfl 0 rfl ?_
                    refine g_iload_n X dX11_unlike_45 rfl 1 rfl ?_
                    refine g_iload X dX11_unlike_46 5 rfl ?_
                    obtain ⟨r_31, hf_30, h⟩ := bnd_some h
                    refine g_callVI (AD := A) (As := [.int c_16, .int v_20]) X (ZC_ok _ _ _ _ _) (m_X11_firstAt hf_30) (cwV 2 X.1.2.2.2.2 gX11_unlike_X11_firstAt rfl rfl rfl (by decide +kernel) ⟨Nat.le_of_ble_eq_true rfl, Nat.le_of_ble_eq_true rfl⟩) rfl mm0 (mE_0 cy A σ_21) rfl rfl (Nat.le_of_ble_eq_true rfl) ⟨by decide, by decide⟩ dX11_unlike_48 ?_
                    refine g_aload_n X dX11_unlike_51 rfl 0 rfl ?_
                    refine g_iload_n X dX11_unlike_52 rfl 1 rfl ?_
                    refine g_iload_n X dX11_unlike_53 rfl 3 rfl ?_
                    obtain ⟨r_33, hf_32, h⟩ := bnd_some h
                    refine g_callVI (AD := A) (As := [.int c_16, .int c_18]) X (ZC_ok _ _ _ _ _) (m_X11_firstAt hf_32) (cwV 2 X.1.2.2.2.2 gX11_unlike_X11_firstAt rfl rfl rfl (by decide +kernel) ⟨Nat.le_of_ble_eq_true rfl, Nat.le_of_ble_eq_true rfl⟩) rfl mm0 (mE_0 cy A σ_21) rfl rfl (Nat.le_of_ble_eq_true rfl) ⟨by decide, by decide⟩ dX11_unlike_54 ?_
                    obtain ⟨v_35, hj_37, h⟩ := bnd_some h
                    have K_36 : gG p l e ({ frames := 2, cells := 0, slots := 0, locals := 42 } : Room) s m args below meth c D (cyT cy) B 6 (eI D (cyT cy) (mW cy A X9) B below args s r σ') (mW cy A X9 σ_21) 0 0 65 [(0, .ref (A 0)), (1, .int c_16), (2, .int c_17), (3, .int c_18), (5, .int v_20)] [.int v_35] := by
                      refine g_istore X dX11_unlike_65 (by decide) (lv' := [(4, .int v_35), (0, .ref (A 0)), (1, .int c_16), (2, .int c_17), (3, .int c_18), (5, .int v_20)]) rfl ?_
                      refine g_iinc X dX11_unlike_67 5 rfl (v := v_20 + (1 : Int32)) rfl (by decide) (lv' := [(5, .int (v_20 + (1 : Int32))), (4, .int v_35), (0, .ref (A 0)), (1, .int c_16), (2, .int c_17), (3, .int c_18)]) rfl ?_
                      refine g_goto X (tgt := 33) dX11_unlike_70 (by decide) ?_
                      exact g_sub [2, 3, 4, 5, 1, 0] rfl (ih_23 _ _ _ h K_24)
                    have h := hj_37
                    clear hj_37
                    refine g_icmp_eq X (tgt := 64) dX11_unlike_57 (by decide) (fun hc_34 => ?_) (fun hc_34 => ?_)
                    · have h := ift hc_34 h
                      refine g_iconst X dX11_unlike_64 (v := (0 : Int32)) (by decide) ?_
                      cases h
                      exact g_sub [0, 1, 2, 3, 5] rfl K_36
                    · have h := iff_ hc_34 h
                      refine g_iconst X dX11_unlike_60 (v := (1 : Int32)) (by decide) ?_
                      refine g_goto X (tgt := 65) dX11_unlike_61 (by decide) ?_
                      cases h
                      exact g_sub [0, 1, 2, 3, 5] rfl K_36
            obtain ⟨o_27, hl_38, h⟩ := bnd_some h
            refine g_sub [2, 3, 4, 5, 1, 0] rfl (L_26 c_4 v_5 v_6 σ_7 FU (1 : Int32) (0 : Int32) o_27 hl_38 ?_)
            refine g_iload_n X dX11_unlike_73 rfl 2 rfl ?_
            refine g_iload X dX11_unlike_74 4 rfl ?_
            obtain ⟨v_40, hj_42, h⟩ := bnd_some h
            have K_41 : gG p l e ({ frames := 2, cells := 0, slots := 0, locals := 42 } : Room) s m args below meth c D (cyT cy) B 6 (eI D (cyT cy) (mW cy A X9) B below args s r σ') (mW cy A X9 σ_7) 0 0 84 [(0, .ref (A 0)), (1, .int c_4), (3, .int v_6)] [.int v_40, .int v_5] := by
              refine g_iadd X dX11_unlike_84 ?_
              refine g_istore_n X dX11_unlike_85 rfl (by decide) (lv' := [(2, .int (v_5 + v_40)), (0, .ref (A 0)), (1, .int c_4), (3, .int v_6)]) rfl ?_
              refine g_iinc X dX11_unlike_86 3 rfl (v := v_6 + (1 : Int32)) rfl (by decide) (lv' := [(3, .int (v_6 + (1 : Int32))), (2, .int (v_5 + v_40)), (0, .ref (A 0)), (1, .int c_4)]) rfl ?_
              refine g_goto X (tgt := 17) dX11_unlike_89 (by decide) ?_
              exact g_sub [2, 3, 1, 0] rfl (ih_9 _ _ _ h K_10)
            have h := hj_42
            clear hj_42
            refine g_if_eq X (tgt := 83) dX11_unlike_76 (by decide) (fun hc_39 => ?_) (fun hc_39 => ?_)
            · have h := ift hc_39 h
              refine g_iconst X dX11_unlike_83 (v := (0 : Int32)) (by decide) ?_
              cases h
              exact g_sub [0, 1, 3] rfl K_41
            · have h := iff_ hc_39 h
              refine g_iconst X dX11_unlike_79 (v := (1 : Int32)) (by decide) ?_
              refine g_goto X (tgt := 84) dX11_unlike_80 (by decide) ?_
              cases h
              exact g_sub [0, 1, 3] rfl K_41
      obtain ⟨o_13, hl_43, h⟩ := bnd_some h
      refine g_sub [2, 3, 1, 0] rfl (L_12 a1 σ FU (0 : Int32) (0 : Int32) o_13 hl_43 ?_)
      refine g_aload_n X dX11_unlike_92 rfl 0 rfl ?_
      refine g_iload_n X dX11_unlike_93 rfl 1 rfl ?_
      obtain ⟨r_45, σ_46, hf_44, h⟩ := bnd2_some h
      refine g_callVI (AD := A) (As := [.int o_13]) X (ZC_ok _ _ _ _ _) (m_X11_told hf_44) (cwV 1 X.1.2.2.2.2 gX11_unlike_X11_told rfl rfl rfl (by decide +kernel) ⟨Nat.le_of_ble_eq_true rfl, Nat.le_of_ble_eq_true rfl⟩) rfl mm0 (mE_0 cy A σ) rfl rfl (Nat.le_of_ble_eq_true rfl) ⟨by decide, by decide⟩ dX11_unlike_94 ?_
      cases h
      exact g_iret (Wf := mW cy A X9) X ⟨rfl, rfl⟩ dX11_unlike_97
    · have h := ift hc_3 h
      refine g_aload_n X dX11_unlike_7 rfl 0 rfl ?_
      refine g_iconst X dX11_unlike_8 (v := (1 : Int32)) (by decide) ?_
      obtain ⟨r_48, σ_49, hf_47, h⟩ := bnd2_some h
      refine g_callVI (AD := A) (As := [.int (1 : Int32)]) X (ZC_ok _ _ _ _ _) (m_X11_refuse hf_47) (cwV 1 X.1.2.2.2.2 gX11_unlike_X11_refuse rfl rfl rfl (by decide +kernel) ⟨Nat.le_of_ble_eq_true rfl, Nat.le_of_ble_eq_true rfl⟩) rfl mm0 (mE_0 cy A σ) rfl rfl (Nat.le_of_ble_eq_true rfl) ⟨by decide, by decide⟩ dX11_unlike_9 ?_
      cases h
      exact g_iret (Wf := mW cy A X9) X ⟨rfl, rfl⟩ dX11_unlike_12
  exact K0
set_option maxHeartbeats 8000000 in
set_option maxRecDepth 100000 in
theorem m_X11_sum {σ : St} {a1 : Int32} {r : Int64} {σ' : St} (h : f_X11_sum a1 σ = some (r, σ')) : mL (ZC aK aO aS aV aT) D (cyT cy) l yX11_sum wsX11_sum ({ frames := 2, cells := 0, slots := 0, locals := 42 } : Room) (mW cy A X9) [.ref (A 0), .int a1] σ r σ' := by
  unfold f_X11_sum at h
  refine mL_of (cc := cX11_sum) (maxL := 5) (ret := (some .long)) (by decide) rfl (Nat.le_of_ble_eq_true rfl) (fun p e s m args below meth c B X => ?_)
  have hin11 : ∀ w ∈ wsX110, w ∈ wsX11_sum := by decide +kernel
  have lk0 : Cond.fieldLink RX11 66 "CardcabinetModel" "thrown" "I" ∈ wsX11_sum := by decide +kernel
  have lk1 : Cond.fieldLink RX11 22 "CardcabinetModel" "many" "[I" ∈ wsX11_sum := by decide +kernel
  have lk2 : Cond.fieldLink RX11 16 "CardcabinetModel" "cards" "[I" ∈ wsX11_sum := by decide +kernel
  have K0 : gG p l e ({ frames := 2, cells := 0, slots := 0, locals := 42 } : Room) s m args below meth c D (cyT cy) B 5 (eL D (cyT cy) (mW cy A X9) B below args s r σ') (mW cy A X9 σ) 0 0 0 [(0, .ref (A 0)), (1, .int a1)] [] := by
    refine g_aload_n X dX11_sum_0 rfl 0 rfl ?_
    refine g_iload_n X dX11_sum_1 rfl 1 rfl ?_
    obtain ⟨r_2, hf_1, h⟩ := bnd_some h
    refine g_callSI (AD := A) (As := [.int a1]) X (ZC_ok _ _ _ _ _) (m_X11_isRow hf_1) (va_cwS 1 X.1.2.2.2.2 gX11_sum_X11_isRow rfl rfl rfl (by decide +kernel) ⟨Nat.le_of_ble_eq_true rfl, Nat.le_of_ble_eq_true rfl⟩) rfl rfl (Nat.le_of_ble_eq_true rfl) ⟨by decide, by decide⟩ dX11_sum_2 ?_
    obtain ⟨v_4, hj_21, h⟩ := bnd_some h
    have K_5 : gG p l e ({ frames := 2, cells := 0, slots := 0, locals := 42 } : Room) s m args below meth c D (cyT cy) B 5 (eL D (cyT cy) (mW cy A X9) B below args s r σ') (mW cy A X9 σ) 0 0 13 [(0, .ref (A 0)), (1, .int a1)] [.int v_4, .ref (A 0)] := by
      refine g_put X (AD := A) (ty := .int) (v := .int v_4) (σ' := si σ 10 v_4) mm0 (mE_0 cy A σ) hin11 rfl tyX11 tyX11_ok nmX11 10 (by decide) lk0 (fun _ h9 => h9) rfl (by decide +kernel) rfl rfl (Nat.le_of_ble_eq_true rfl) (sm_10 cy A σ v_4) dX11_sum_13 ?_
      refine g_lconst X dX11_sum_16 (v := (0 : Int64)) (by decide) ?_
      refine g_lstore_n X dX11_sum_17 rfl (by decide) (lv' := [(2, .long (0 : Int64)), (0, .ref (A 0)), (1, .int a1)]) rfl ?_
      refine g_iconst X dX11_sum_18 (v := (0 : Int32)) (by decide) ?_
      refine g_istore X dX11_sum_19 (by decide) (lv' := [(4, .int (0 : Int32)), (2, .long (0 : Int64)), (0, .ref (A 0)), (1, .int a1)]) rfl ?_
      have L_14 : ∀ (c_6 : Int32) (σ_9 : St) (n_10 : Nat) (v_7 : Int64) (v_8 : Int32) (o_15 : Int64), f_X11_sum_L21 c_6 σ_9 n_10 v_7 v_8 = some (o_15) → gG p l e ({ frames := 2, cells := 0, slots := 0, locals := 42 } : Room) s m args below meth c D (cyT cy) B 5 (eL D (cyT cy) (mW cy A X9) B below args s r σ') (mW cy A X9 σ_9) 0 0 70 [(2, .long o_15)] [] → gG p l e ({ frames := 2, cells := 0, slots := 0, locals := 42 } : Room) s m args below meth c D (cyT cy) B 5 (eL D (cyT cy) (mW cy A X9) B below args s r σ') (mW cy A X9 σ_9) 0 0 21 [(0, .ref (A 0)), (1, .int c_6), (2, .long v_7), (4, .int v_8)] [] := by
        intro c_6 σ_9 n_10
        induction n_10 with
        | zero =>
          intro v_7 v_8 o_15 h K_12
          rw [f_X11_sum_L21] at h
          cases h
        | succ n_10 ih_11 =>
          intro v_7 v_8 o_15 h K_12
          rw [f_X11_sum_L21] at h
          refine g_aload_n X dX11_sum_21 rfl 0 rfl ?_
          refine g_get X (AD := A) mm0 (mE_0 cy A σ_9) hin11 rfl 10 (by decide) lk0 (fun _ h9 => h9) rfl dX11_sum_22 ?_
          refine g_if_ne X (tgt := 70) dX11_sum_25 (by decide) (fun hc_16 => ?_) (fun hc_16 => ?_)
          · have h := iff_ hc_16 h
            cases h
            exact g_sub [2] rfl K_12
          · have h := ift hc_16 h
            refine g_iload X dX11_sum_28 3 rfl ?_
            refine g_aload_n X dX11_sum_30 rfl 0 rfl ?_
            refine g_get X (AD := A) mm0 (mE_0 cy A σ_9) hin11 rfl 5 (by decide) lk1 (fun _ h9 => h9) rfl dX11_sum_31 ?_
            refine g_iload_n X dX11_sum_34 rfl 1 rfl ?_
            obtain ⟨hg_17, h⟩ := grd_some h
            refine g_iald X (AD := A) mm6 (mE_6 cy A σ_9) 0 rfl hg_17 dX11_sum_35 ?_
            refine g_icmp_ge X (tgt := 70) dX11_sum_36 (by decide) (fun hc_18 => ?_) (fun hc_18 => ?_)
            · have h := ift hc_18 h
              cases h
              exact g_sub [2] rfl K_12
            · have h := iff_ hc_18 h
              refine g_lload_n X dX11_sum_39 rfl 2 rfl ?_
              refine g_iload X dX11_sum_40 3 rfl ?_
              refine g_i2l X dX11_sum_42 ?_
              refine g_lconst X dX11_sum_43 (v := (1 : Int64)) (by decide) ?_
              refine g_ladd X dX11_sum_44 ?_
              refine g_aload_n X dX11_sum_45 rfl 0 rfl ?_
              refine g_get X (AD := A) mm0 (mE_0 cy A σ_9) hin11 rfl 3 (by decide) lk2 (fun _ h9 => h9) rfl dX11_sum_46 ?_
              refine g_sipush X dX11_sum_49 (v := (800 : Int32)) (by decide) ?_
              refine g_iload_n X dX11_sum_52 rfl 1 rfl ?_
              refine g_imul X dX11_sum_53 ?_
              refine g_iload X dX11_sum_54 3 rfl ?_
              refine g_iadd X dX11_sum_56 ?_
              obtain ⟨hg_19, h⟩ := grd_some h
              refine g_iald X (AD := A) mm4 (mE_4 cy A σ_9) 0 rfl hg_19 dX11_sum_57 ?_
              refine g_i2l X dX11_sum_58 ?_
              refine g_lconst X dX11_sum_59 (v := (1 : Int64)) (by decide) ?_
              refine g_ladd X dX11_sum_60 ?_
              refine g_lmul X dX11_sum_61 ?_
              refine g_ladd X dX11_sum_62 ?_
              refine g_lstore_n X dX11_sum_63 rfl (by decide) (lv' := [(2, .long (v_7 + ((v_8.toInt64 + (1 : Int64)) * (((gr σ_9 4 (((800 : Int32) * c_6) + v_8).toNatClampNeg).toInt64) + (1 : Int64))))), (0, .ref (A 0)), (1, .int c_6), (4, .int v_8)]) rfl ?_
              refine g_iinc X dX11_sum_64 3 rfl (v := v_8 + (1 : Int32)) rfl (by decide) (lv' := [(4, .int (v_8 + (1 : Int32))), (2, .long (v_7 + ((v_8.toInt64 + (1 : Int64)) * (((gr σ_9 4 (((800 : Int32) * c_6) + v_8).toNatClampNeg).toInt64) + (1 : Int64))))), (0, .ref (A 0)), (1, .int c_6)]) rfl ?_
              refine g_goto X (tgt := 21) dX11_sum_67 (by decide) ?_
              exact g_sub [2, 3, 1, 0] rfl (ih_11 _ _ _ h K_12)
      obtain ⟨o_15, hl_20, h⟩ := bnd_some h
      refine g_sub [2, 3, 1, 0] rfl (L_14 a1 (si σ 10 v_4) FU (0 : Int64) (0 : Int32) o_15 hl_20 ?_)
      refine g_lload_n X dX11_sum_70 rfl 0 rfl ?_
      cases h
      exact g_lret (Wf := mW cy A X9) X ⟨rfl, rfl⟩ dX11_sum_71
    have h := hj_21
    clear hj_21
    refine g_if_eq X (tgt := 12) dX11_sum_5 (by decide) (fun hc_3 => ?_) (fun hc_3 => ?_)
    · have h := ift hc_3 h
      refine g_iconst X dX11_sum_12 (v := (1 : Int32)) (by decide) ?_
      cases h
      exact g_sub [0, 1] rfl K_5
    · have h := iff_ hc_3 h
      refine g_iconst X dX11_sum_8 (v := (0 : Int32)) (by decide) ?_
      refine g_goto X (tgt := 13) dX11_sum_9 (by decide) ?_
      cases h
      exact g_sub [0, 1] rfl K_5
  exact K0
end MV
