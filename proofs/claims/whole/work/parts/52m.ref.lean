section MV
variable {D : va_G} {cy : Nat → ClassId} {A aK aO aS aV aT : Nat → Nat} {l : Launch} {X9 : va_W}
set_option maxHeartbeats 8000000 in
set_option maxRecDepth 100000 in
theorem m_X11_takesNumber {σ : St} {a1 : Int32} {a2 : Int32} {r : Int32} {σ' : St} (h : f_X11_takesNumber a1 a2 σ = some (r, σ')) : mI (ZC aK aO aS aV aT) D (cyT cy) l yX11_takesNumber wsX11_takesNumber ({ frames := 3, cells := 0, slots := 0, locals := 64 } : Room) (mW cy A X9) [.ref (A 0), .int a1, .int a2] σ r σ' := by
  unfold f_X11_takesNumber at h
  refine mI_of (cc := cX11_takesNumber) (maxL := 4) (ret := (some .int)) (by decide) rfl (Nat.le_of_ble_eq_true rfl) (fun p e s m args below meth c B X => ?_)
  have hin11 : ∀ w ∈ wsX110, w ∈ wsX11_takesNumber := by decide +kernel
  have lk0 : Cond.fieldLink RX11 101 "CardcabinetModel" "number" "I" ∈ wsX11_takesNumber := by decide +kernel
  have lk1 : Cond.fieldLink RX11 91 "CardcabinetModel" "token" "I" ∈ wsX11_takesNumber := by decide +kernel
  have K0 : gG p l e ({ frames := 3, cells := 0, slots := 0, locals := 64 } : Room) s m args below meth c D (cyT cy) B 4 (eI D (cyT cy) (mW cy A X9) B below args s r σ') (mW cy A X9 σ) 0 0 0 [(0, .ref (A 0)), (1, .int a1), (2, .int a2)] [] := by
    refine g_aload_n X dX11_takesNumber_0 rfl 0 rfl ?_
    refine g_get X (AD := A) mm0 (mE_0 cy A σ) hin11 rfl 16 (by decide) lk0 (fun _ h9 => h9) rfl dX11_takesNumber_1 ?_
    refine g_istore_n X dX11_takesNumber_4 rfl (by decide) (lv' := [(3, .int (gi σ 16)), (0, .ref (A 0)), (1, .int a1), (2, .int a2)]) rfl ?_
    refine g_aload_n X dX11_takesNumber_5 rfl 1 rfl ?_
    refine g_get X (AD := A) mm0 (mE_0 cy A σ) hin11 rfl 14 (by decide) lk1 (fun _ h9 => h9) rfl dX11_takesNumber_6 ?_
    refine g_iconst X dX11_takesNumber_9 (v := (2 : Int32)) (by decide) ?_
    refine g_icmp_ne X (tgt := 22) dX11_takesNumber_10 (by decide) (fun hc_1 => ?_) (fun hc_1 => ?_)
    · have h := iff_ hc_1 h
      refine g_aload_n X dX11_takesNumber_22 rfl 1 rfl ?_
      obtain ⟨σ_3, hf_2, h⟩ := bnd_some h
      refine g_callVV (AD := A) (As := []) X (ZC_ok _ _ _ _ _) (m_X11_isWrong hf_2) (cwV 0 X.1.2.2.2.2 gX11_takesNumber_X11_isWrong rfl rfl rfl (by decide +kernel) ⟨Nat.le_of_ble_eq_true rfl, Nat.le_of_ble_eq_true rfl⟩) rfl mm0 (mE_0 cy A σ) rfl rfl (Nat.le_of_ble_eq_true rfl) ⟨by decide, by decide⟩ dX11_takesNumber_23 ?_
      refine g_iload_n X dX11_takesNumber_26 rfl 2 rfl ?_
      cases h
      exact g_iret (Wf := mW cy A X9) X ⟨rfl, rfl⟩ dX11_takesNumber_27
    · have h := ift hc_1 h
      refine g_iload_n X dX11_takesNumber_13 rfl 0 rfl ?_
      refine g_iload_n X dX11_takesNumber_14 rfl 2 rfl ?_
      refine g_iload_n X dX11_takesNumber_15 rfl 3 rfl ?_
      obtain ⟨r_5, hf_4, h⟩ := bnd_some h
      refine g_callSI (AD := A) (As := [.int (gi σ 16), .int a1, .int a2]) X (ZC_ok _ _ _ _ _) (m_X11_in hf_4) (va_cwS 3 X.1.2.2.2.2 gX11_takesNumber_X11_in rfl rfl rfl (by decide +kernel) ⟨Nat.le_of_ble_eq_true rfl, Nat.le_of_ble_eq_true rfl⟩) rfl rfl (Nat.le_of_ble_eq_true rfl) ⟨by decide, by decide⟩ dX11_takesNumber_16 ?_
      refine g_if_ne X (tgt := 28) dX11_takesNumber_19 (by decide) (fun hc_6 => ?_) (fun hc_6 => ?_)
      · have h := iff_ hc_6 h
        refine g_aload_n X dX11_takesNumber_28 rfl 1 rfl ?_
        obtain ⟨σ_8, hf_7, h⟩ := bnd_some h
        refine g_callVV (AD := A) (As := []) X (ZC_ok _ _ _ _ _) (m_X11_next hf_7) (cwV 0 X.1.2.2.2.2 gX11_takesNumber_X11_next rfl rfl rfl (by decide +kernel) ⟨Nat.le_of_ble_eq_true rfl, Nat.le_of_ble_eq_true rfl⟩) rfl mm0 (mE_0 cy A σ) rfl rfl (Nat.le_of_ble_eq_true rfl) ⟨by decide, by decide⟩ dX11_takesNumber_29 ?_
        refine g_iload_n X dX11_takesNumber_32 rfl 0 rfl ?_
        cases h
        exact g_iret (Wf := mW cy A X9) X ⟨rfl, rfl⟩ dX11_takesNumber_33
      · have h := ift hc_6 h
        refine g_aload_n X dX11_takesNumber_22 rfl 1 rfl ?_
        obtain ⟨σ_10, hf_9, h⟩ := bnd_some h
        refine g_callVV (AD := A) (As := []) X (ZC_ok _ _ _ _ _) (m_X11_isWrong hf_9) (cwV 0 X.1.2.2.2.2 gX11_takesNumber_X11_isWrong rfl rfl rfl (by decide +kernel) ⟨Nat.le_of_ble_eq_true rfl, Nat.le_of_ble_eq_true rfl⟩) rfl mm0 (mE_0 cy A σ) rfl rfl (Nat.le_of_ble_eq_true rfl) ⟨by decide, by decide⟩ dX11_takesNumber_23 ?_
        refine g_iload_n X dX11_takesNumber_26 rfl 2 rfl ?_
        cases h
        exact g_iret (Wf := mW cy A X9) X ⟨rfl, rfl⟩ dX11_takesNumber_27
  exact K0
set_option maxHeartbeats 8000000 in
set_option maxRecDepth 100000 in
theorem m_X11_kindHere {σ : St} {r : Int32} (h : f_X11_kindHere σ = some r) : mI (ZC aK aO aS aV aT) D (cyT cy) l yX11_kindHere wsX11_kindHere ({ frames := 2, cells := 0, slots := 0, locals := 46 } : Room) (mW cy A X9) [.ref (A 0)] σ r σ := by
  unfold f_X11_kindHere at h
  refine mI_of (cc := cX11_kindHere) (maxL := 1) (ret := (some .int)) (by decide) rfl (Nat.le_of_ble_eq_true rfl) (fun p e s m args below meth c B X => ?_)
  have K0 : gG p l e ({ frames := 2, cells := 0, slots := 0, locals := 46 } : Room) s m args below meth c D (cyT cy) B 1 (eI D (cyT cy) (mW cy A X9) B below args s r σ) (mW cy A X9 σ) 0 0 0 [(0, .ref (A 0))] [] := by
    refine g_aload_n X dX11_kindHere_0 rfl 0 rfl ?_
    refine g_bipush X dX11_kindHere_1 (v := (115 : Int32)) (by decide) ?_
    refine g_bipush X dX11_kindHere_3 (v := (97 : Int32)) (by decide) ?_
    refine g_bipush X dX11_kindHere_5 (v := (109 : Int32)) (by decide) ?_
    refine g_bipush X dX11_kindHere_7 (v := (101 : Int32)) (by decide) ?_
    refine g_iconst X dX11_kindHere_9 (v := (0 : Int32)) (by decide) ?_
    obtain ⟨r_2, hf_1, h⟩ := bnd_some h
    refine g_callVI (AD := A) (As := [.int (115 : Int32), .int (97 : Int32), .int (109 : Int32), .int (101 : Int32), .int (0 : Int32)]) X (ZC_ok _ _ _ _ _) (m_X11_isWord hf_1) (cwV 5 X.1.2.2.2.2 gX11_kindHere_X11_isWord rfl rfl rfl (by decide +kernel) ⟨Nat.le_of_ble_eq_true rfl, Nat.le_of_ble_eq_true rfl⟩) rfl mm0 (mE_0 cy A σ) rfl rfl (Nat.le_of_ble_eq_true rfl) ⟨by decide, by decide⟩ dX11_kindHere_10 ?_
    refine g_if_eq X (tgt := 18) dX11_kindHere_13 (by decide) (fun hc_3 => ?_) (fun hc_3 => ?_)
    · have h := ift hc_3 h
      refine g_aload_n X dX11_kindHere_18 rfl 0 rfl ?_
      refine g_bipush X dX11_kindHere_19 (v := (114 : Int32)) (by decide) ?_
      refine g_bipush X dX11_kindHere_21 (v := (105 : Int32)) (by decide) ?_
      refine g_bipush X dX11_kindHere_23 (v := (115 : Int32)) (by decide) ?_
      refine g_bipush X dX11_kindHere_25 (v := (101 : Int32)) (by decide) ?_
      refine g_iconst X dX11_kindHere_27 (v := (0 : Int32)) (by decide) ?_
      obtain ⟨r_5, hf_4, h⟩ := bnd_some h
      refine g_callVI (AD := A) (As := [.int (114 : Int32), .int (105 : Int32), .int (115 : Int32), .int (101 : Int32), .int (0 : Int32)]) X (ZC_ok _ _ _ _ _) (m_X11_isWord hf_4) (cwV 5 X.1.2.2.2.2 gX11_kindHere_X11_isWord rfl rfl rfl (by decide +kernel) ⟨Nat.le_of_ble_eq_true rfl, Nat.le_of_ble_eq_true rfl⟩) rfl mm0 (mE_0 cy A σ) rfl rfl (Nat.le_of_ble_eq_true rfl) ⟨by decide, by decide⟩ dX11_kindHere_28 ?_
      refine g_if_eq X (tgt := 36) dX11_kindHere_31 (by decide) (fun hc_6 => ?_) (fun hc_6 => ?_)
      · have h := ift hc_6 h
        refine g_aload_n X dX11_kindHere_36 rfl 0 rfl ?_
        refine g_bipush X dX11_kindHere_37 (v := (102 : Int32)) (by decide) ?_
        refine g_bipush X dX11_kindHere_39 (v := (97 : Int32)) (by decide) ?_
        refine g_bipush X dX11_kindHere_41 (v := (108 : Int32)) (by decide) ?_
        refine g_bipush X dX11_kindHere_43 (v := (108 : Int32)) (by decide) ?_
        refine g_iconst X dX11_kindHere_45 (v := (0 : Int32)) (by decide) ?_
        obtain ⟨r_8, hf_7, h⟩ := bnd_some h
        refine g_callVI (AD := A) (As := [.int (102 : Int32), .int (97 : Int32), .int (108 : Int32), .int (108 : Int32), .int (0 : Int32)]) X (ZC_ok _ _ _ _ _) (m_X11_isWord hf_7) (cwV 5 X.1.2.2.2.2 gX11_kindHere_X11_isWord rfl rfl rfl (by decide +kernel) ⟨Nat.le_of_ble_eq_true rfl, Nat.le_of_ble_eq_true rfl⟩) rfl mm0 (mE_0 cy A σ) rfl rfl (Nat.le_of_ble_eq_true rfl) ⟨by decide, by decide⟩ dX11_kindHere_46 ?_
        refine g_if_eq X (tgt := 54) dX11_kindHere_49 (by decide) (fun hc_9 => ?_) (fun hc_9 => ?_)
        · have h := ift hc_9 h
          refine g_aload_n X dX11_kindHere_54 rfl 0 rfl ?_
          refine g_bipush X dX11_kindHere_55 (v := (119 : Int32)) (by decide) ?_
          refine g_bipush X dX11_kindHere_57 (v := (97 : Int32)) (by decide) ?_
          refine g_bipush X dX11_kindHere_59 (v := (118 : Int32)) (by decide) ?_
          refine g_bipush X dX11_kindHere_61 (v := (101 : Int32)) (by decide) ?_
          refine g_iconst X dX11_kindHere_63 (v := (0 : Int32)) (by decide) ?_
          obtain ⟨r_11, hf_10, h⟩ := bnd_some h
          refine g_callVI (AD := A) (As := [.int (119 : Int32), .int (97 : Int32), .int (118 : Int32), .int (101 : Int32), .int (0 : Int32)]) X (ZC_ok _ _ _ _ _) (m_X11_isWord hf_10) (cwV 5 X.1.2.2.2.2 gX11_kindHere_X11_isWord rfl rfl rfl (by decide +kernel) ⟨Nat.le_of_ble_eq_true rfl, Nat.le_of_ble_eq_true rfl⟩) rfl mm0 (mE_0 cy A σ) rfl rfl (Nat.le_of_ble_eq_true rfl) ⟨by decide, by decide⟩ dX11_kindHere_64 ?_
          refine g_if_eq X (tgt := 72) dX11_kindHere_67 (by decide) (fun hc_12 => ?_) (fun hc_12 => ?_)
          · have h := ift hc_12 h
            refine g_aload_n X dX11_kindHere_72 rfl 0 rfl ?_
            refine g_bipush X dX11_kindHere_73 (v := (100 : Int32)) (by decide) ?_
            refine g_bipush X dX11_kindHere_75 (v := (114 : Int32)) (by decide) ?_
            refine g_bipush X dX11_kindHere_77 (v := (97 : Int32)) (by decide) ?_
            refine g_bipush X dX11_kindHere_79 (v := (119 : Int32)) (by decide) ?_
            refine g_iconst X dX11_kindHere_81 (v := (0 : Int32)) (by decide) ?_
            obtain ⟨r_14, hf_13, h⟩ := bnd_some h
            refine g_callVI (AD := A) (As := [.int (100 : Int32), .int (114 : Int32), .int (97 : Int32), .int (119 : Int32), .int (0 : Int32)]) X (ZC_ok _ _ _ _ _) (m_X11_isWord hf_13) (cwV 5 X.1.2.2.2.2 gX11_kindHere_X11_isWord rfl rfl rfl (by decide +kernel) ⟨Nat.le_of_ble_eq_true rfl, Nat.le_of_ble_eq_true rfl⟩) rfl mm0 (mE_0 cy A σ) rfl rfl (Nat.le_of_ble_eq_true rfl) ⟨by decide, by decide⟩ dX11_kindHere_82 ?_
            refine g_if_eq X (tgt := 90) dX11_kindHere_85 (by decide) (fun hc_15 => ?_) (fun hc_15 => ?_)
            · have h := ift hc_15 h
              refine g_aload_n X dX11_kindHere_90 rfl 0 rfl ?_
              refine g_bipush X dX11_kindHere_91 (v := (116 : Int32)) (by decide) ?_
              refine g_bipush X dX11_kindHere_93 (v := (101 : Int32)) (by decide) ?_
              refine g_bipush X dX11_kindHere_95 (v := (101 : Int32)) (by decide) ?_
              refine g_bipush X dX11_kindHere_97 (v := (116 : Int32)) (by decide) ?_
              refine g_bipush X dX11_kindHere_99 (v := (104 : Int32)) (by decide) ?_
              obtain ⟨r_17, hf_16, h⟩ := bnd_some h
              refine g_callVI (AD := A) (As := [.int (116 : Int32), .int (101 : Int32), .int (101 : Int32), .int (116 : Int32), .int (104 : Int32)]) X (ZC_ok _ _ _ _ _) (m_X11_isWord hf_16) (cwV 5 X.1.2.2.2.2 gX11_kindHere_X11_isWord rfl rfl rfl (by decide +kernel) ⟨Nat.le_of_ble_eq_true rfl, Nat.le_of_ble_eq_true rfl⟩) rfl mm0 (mE_0 cy A σ) rfl rfl (Nat.le_of_ble_eq_true rfl) ⟨by decide, by decide⟩ dX11_kindHere_101 ?_
              obtain ⟨v_19, hj_21, h⟩ := bnd_some h
              have K_20 : gG p l e ({ frames := 2, cells := 0, slots := 0, locals := 46 } : Room) s m args below meth c D (cyT cy) B 1 (eI D (cyT cy) (mW cy A X9) B below args s r σ) (mW cy A X9 σ) 0 0 112 [] [.int v_19] := by
                cases h
                exact g_iret (Wf := mW cy A X9) X ⟨rfl, rfl⟩ dX11_kindHere_112
              have h := hj_21
              clear hj_21
              refine g_if_eq X (tgt := 111) dX11_kindHere_104 (by decide) (fun hc_18 => ?_) (fun hc_18 => ?_)
              · have h := ift hc_18 h
                refine g_iconst X dX11_kindHere_111 (v := (-1 : Int32)) (by decide) ?_
                cases h
                exact g_sub [] rfl K_20
              · have h := iff_ hc_18 h
                refine g_iconst X dX11_kindHere_107 (v := (5 : Int32)) (by decide) ?_
                refine g_goto X (tgt := 112) dX11_kindHere_108 (by decide) ?_
                cases h
                exact g_sub [] rfl K_20
            · have h := iff_ hc_15 h
              refine g_iconst X dX11_kindHere_88 (v := (4 : Int32)) (by decide) ?_
              cases h
              exact g_iret (Wf := mW cy A X9) X ⟨rfl, rfl⟩ dX11_kindHere_89
          · have h := iff_ hc_12 h
            refine g_iconst X dX11_kindHere_70 (v := (3 : Int32)) (by decide) ?_
            cases h
            exact g_iret (Wf := mW cy A X9) X ⟨rfl, rfl⟩ dX11_kindHere_71
        · have h := iff_ hc_9 h
          refine g_iconst X dX11_kindHere_52 (v := (2 : Int32)) (by decide) ?_
          cases h
          exact g_iret (Wf := mW cy A X9) X ⟨rfl, rfl⟩ dX11_kindHere_53
      · have h := iff_ hc_6 h
        refine g_iconst X dX11_kindHere_34 (v := (1 : Int32)) (by decide) ?_
        cases h
        exact g_iret (Wf := mW cy A X9) X ⟨rfl, rfl⟩ dX11_kindHere_35
    · have h := iff_ hc_3 h
      refine g_iconst X dX11_kindHere_16 (v := (0 : Int32)) (by decide) ?_
      cases h
      exact g_iret (Wf := mW cy A X9) X ⟨rfl, rfl⟩ dX11_kindHere_17
  exact K0
set_option maxHeartbeats 8000000 in
set_option maxRecDepth 100000 in
theorem m_X11_takesStart {σ : St} {r : Int32} {σ' : St} (h : f_X11_takesStart σ = some (r, σ')) : mI (ZC aK aO aS aV aT) D (cyT cy) l yX11_takesStart wsX11_takesStart ({ frames := 4, cells := 0, slots := 0, locals := 87 } : Room) (mW cy A X9) [.ref (A 0)] σ r σ' := by
  unfold f_X11_takesStart at h
  refine mI_of (cc := cX11_takesStart) (maxL := 1) (ret := (some .int)) (by decide) rfl (Nat.le_of_ble_eq_true rfl) (fun p e s m args below meth c B X => ?_)
  have hin11 : ∀ w ∈ wsX110, w ∈ wsX11_takesStart := by decide +kernel
  have lk0 : Cond.fieldLink RX11 91 "CardcabinetModel" "token" "I" ∈ wsX11_takesStart := by decide +kernel
  have K0 : gG p l e ({ frames := 4, cells := 0, slots := 0, locals := 87 } : Room) s m args below meth c D (cyT cy) B 1 (eI D (cyT cy) (mW cy A X9) B below args s r σ') (mW cy A X9 σ) 0 0 0 [(0, .ref (A 0))] [] := by
    refine g_aload_n X dX11_takesStart_0 rfl 0 rfl ?_
    refine g_get X (AD := A) mm0 (mE_0 cy A σ) hin11 rfl 14 (by decide) lk0 (fun _ h9 => h9) rfl dX11_takesStart_1 ?_
    refine g_iconst X dX11_takesStart_4 (v := (4 : Int32)) (by decide) ?_
    refine g_icmp_eq X (tgt := 17) dX11_takesStart_5 (by decide) (fun hc_1 => ?_) (fun hc_1 => ?_)
    · have h := ift hc_1 h
      refine g_aload_n X dX11_takesStart_17 rfl 0 rfl ?_
      obtain ⟨σ_3, hf_2, h⟩ := bnd_some h
      refine g_callVV (AD := A) (As := []) X (ZC_ok _ _ _ _ _) (m_X11_next hf_2) (cwV 0 X.1.2.2.2.2 gX11_takesStart_X11_next rfl rfl rfl (by decide +kernel) ⟨Nat.le_of_ble_eq_true rfl, Nat.le_of_ble_eq_true rfl⟩) rfl mm0 (mE_0 cy A σ) rfl rfl (Nat.le_of_ble_eq_true rfl) ⟨by decide, by decide⟩ dX11_takesStart_18 ?_
      refine g_aload_n X dX11_takesStart_21 rfl 0 rfl ?_
      refine g_iconst X dX11_takesStart_22 (v := (0 : Int32)) (by decide) ?_
      refine g_sipush X dX11_takesStart_23 (v := (9999 : Int32)) (by decide) ?_
      obtain ⟨r_5, σ_6, hf_4, h⟩ := bnd2_some h
      refine g_callVI (AD := A) (As := [.int (0 : Int32), .int (9999 : Int32)]) X (ZC_ok _ _ _ _ _) (m_X11_takesNumber hf_4) (cwV 2 X.1.2.2.2.2 gX11_takesStart_X11_takesNumber rfl rfl rfl (by decide +kernel) ⟨Nat.le_of_ble_eq_true rfl, Nat.le_of_ble_eq_true rfl⟩) rfl mm0 (mE_0 cy A σ_3) rfl rfl (Nat.le_of_ble_eq_true rfl) ⟨by decide, by decide⟩ dX11_takesStart_26 ?_
      refine g_ineg X dX11_takesStart_29 ?_
      cases h
      exact g_iret (Wf := mW cy A X9) X ⟨rfl, rfl⟩ dX11_takesStart_30
    · have h := iff_ hc_1 h
      refine g_aload_n X dX11_takesStart_8 rfl 0 rfl ?_
      refine g_iconst X dX11_takesStart_9 (v := (0 : Int32)) (by decide) ?_
      refine g_sipush X dX11_takesStart_10 (v := (9999 : Int32)) (by decide) ?_
      obtain ⟨r_8, σ_9, hf_7, h⟩ := bnd2_some h
      refine g_callVI (AD := A) (As := [.int (0 : Int32), .int (9999 : Int32)]) X (ZC_ok _ _ _ _ _) (m_X11_takesNumber hf_7) (cwV 2 X.1.2.2.2.2 gX11_takesStart_X11_takesNumber rfl rfl rfl (by decide +kernel) ⟨Nat.le_of_ble_eq_true rfl, Nat.le_of_ble_eq_true rfl⟩) rfl mm0 (mE_0 cy A σ) rfl rfl (Nat.le_of_ble_eq_true rfl) ⟨by decide, by decide⟩ dX11_takesStart_13 ?_
      cases h
      exact g_iret (Wf := mW cy A X9) X ⟨rfl, rfl⟩ dX11_takesStart_16
  exact K0
set_option maxHeartbeats 8000000 in
set_option maxRecDepth 100000 in
theorem m_X11_takesRun {σ : St} {σ' : St} (h : f_X11_takesRun σ = some σ') : mV (ZC aK aO aS aV aT) D (cyT cy) l yX11_takesRun wsX11_takesRun ({ frames := 5, cells := 0, slots := 0, locals := 107 } : Room) (mW cy A X9) [.ref (A 0)] σ σ' := by
  unfold f_X11_takesRun at h
  refine mV_of (cc := cX11_takesRun) (maxL := 7) (ret := none) (by decide) rfl (Nat.le_of_ble_eq_true rfl) (fun p e s m args below meth c B X => ?_)
  have hin11 : ∀ w ∈ wsX110, w ∈ wsX11_takesRun := by decide +kernel
  have lk0 : Cond.fieldLink RX11 104 "CardcabinetModel" "wrong" "I" ∈ wsX11_takesRun := by decide +kernel
  have lk1 : Cond.fieldLink RX11 91 "CardcabinetModel" "token" "I" ∈ wsX11_takesRun := by decide +kernel
  have lk2 : Cond.fieldLink RX11 41 "CardcabinetModel" "runKind" "[I" ∈ wsX11_takesRun := by decide +kernel
  have lk3 : Cond.fieldLink RX11 131 "CardcabinetModel" "runMany" "I" ∈ wsX11_takesRun := by decide +kernel
  have lk4 : Cond.fieldLink RX11 44 "CardcabinetModel" "runCount" "[I" ∈ wsX11_takesRun := by decide +kernel
  have lk5 : Cond.fieldLink RX11 47 "CardcabinetModel" "runStart" "[I" ∈ wsX11_takesRun := by decide +kernel
  have lk6 : Cond.fieldLink RX11 50 "CardcabinetModel" "runStep" "[I" ∈ wsX11_takesRun := by decide +kernel
  have lk7 : Cond.fieldLink RX11 53 "CardcabinetModel" "runLength" "[I" ∈ wsX11_takesRun := by decide +kernel
  have lk8 : Cond.fieldLink RX11 56 "CardcabinetModel" "runDivisor" "[I" ∈ wsX11_takesRun := by decide +kernel
  have K0 : gG p l e ({ frames := 5, cells := 0, slots := 0, locals := 107 } : Room) s m args below meth c D (cyT cy) B 7 (eV D (cyT cy) (mW cy A X9) B below args s σ') (mW cy A X9 σ) 0 0 0 [(0, .ref (A 0))] [] := by
    refine g_aload_n X dX11_takesRun_0 rfl 0 rfl ?_
    obtain ⟨r_2, hf_1, h⟩ := bnd_some h
    refine g_callVI (AD := A) (As := []) X (ZC_ok _ _ _ _ _) (m_X11_kindHere hf_1) (cwV 0 X.1.2.2.2.2 gX11_takesRun_X11_kindHere rfl rfl rfl (by decide +kernel) ⟨Nat.le_of_ble_eq_true rfl, Nat.le_of_ble_eq_true rfl⟩) rfl mm0 (mE_0 cy A σ) rfl rfl (Nat.le_of_ble_eq_true rfl) ⟨by decide, by decide⟩ dX11_takesRun_1 ?_
    refine g_istore_n X dX11_takesRun_4 rfl (by decide) (lv' := [(1, .int r_2), (0, .ref (A 0))]) rfl ?_
    refine g_iload_n X dX11_takesRun_5 rfl 0 rfl ?_
    refine g_iconst X dX11_takesRun_6 (v := (-1 : Int32)) (by decide) ?_
    refine g_icmp_ne X (tgt := 15) dX11_takesRun_7 (by decide) (fun hc_3 => ?_) (fun hc_3 => ?_)
    · have h := iff_ hc_3 h
      refine g_aload_n X dX11_takesRun_15 rfl 1 rfl ?_
      obtain ⟨σ_5, hf_4, h⟩ := bnd_some h
      refine g_callVV (AD := A) (As := []) X (ZC_ok _ _ _ _ _) (m_X11_next hf_4) (cwV 0 X.1.2.2.2.2 gX11_takesRun_X11_next rfl rfl rfl (by decide +kernel) ⟨Nat.le_of_ble_eq_true rfl, Nat.le_of_ble_eq_true rfl⟩) rfl mm0 (mE_0 cy A σ) rfl rfl (Nat.le_of_ble_eq_true rfl) ⟨by decide, by decide⟩ dX11_takesRun_16 ?_
      refine g_aload_n X dX11_takesRun_19 rfl 1 rfl ?_
      refine g_iconst X dX11_takesRun_20 (v := (1 : Int32)) (by decide) ?_
      refine g_sipush X dX11_takesRun_21 (v := (400 : Int32)) (by decide) ?_
      obtain ⟨r_7, σ_8, hf_6, h⟩ := bnd2_some h
      refine g_callVI (AD := A) (As := [.int (1 : Int32), .int (400 : Int32)]) X (ZC_ok _ _ _ _ _) (m_X11_takesNumber hf_6) (cwV 2 X.1.2.2.2.2 gX11_takesRun_X11_takesNumber rfl rfl rfl (by decide +kernel) ⟨Nat.le_of_ble_eq_true rfl, Nat.le_of_ble_eq_true rfl⟩) rfl mm0 (mE_0 cy A σ_5) rfl rfl (Nat.le_of_ble_eq_true rfl) ⟨by decide, by decide⟩ dX11_takesRun_24 ?_
      refine g_istore_n X dX11_takesRun_27 rfl (by decide) (lv' := [(2, .int r_7), (1, .int r_2), (0, .ref (A 0))]) rfl ?_
      refine g_aload_n X dX11_takesRun_28 rfl 2 rfl ?_
      refine g_get X (AD := A) mm0 (mE_0 cy A σ_8) hin11 rfl 17 (by decide) lk0 (fun _ h9 => h9) rfl dX11_takesRun_29 ?_
      refine g_iconst X dX11_takesRun_32 (v := (-1 : Int32)) (by decide) ?_
      obtain ⟨v_10, σ_11, hj_75, h⟩ := bnd2_some h
      have K_12 : gG p l e ({ frames := 5, cells := 0, slots := 0, locals := 107 } : Room) s m args below meth c D (cyT cy) B 7 (eV D (cyT cy) (mW cy A X9) B below args s σ') (mW cy A X9 σ_11) 0 0 44 [(0, .ref (A 0)), (1, .int r_2), (2, .int r_7)] [.int v_10] := by
        refine g_istore_n X dX11_takesRun_44 rfl (by decide) (lv' := [(3, .int v_10), (0, .ref (A 0)), (1, .int r_2), (2, .int r_7)]) rfl ?_
        refine g_aload_n X dX11_takesRun_45 rfl 1 rfl ?_
        refine g_get X (AD := A) mm0 (mE_0 cy A σ_11) hin11 rfl 17 (by decide) lk0 (fun _ h9 => h9) rfl dX11_takesRun_46 ?_
        refine g_iconst X dX11_takesRun_49 (v := (-1 : Int32)) (by decide) ?_
        obtain ⟨v_17, σ_18, hj_74, h⟩ := bnd2_some h
        have K_19 : gG p l e ({ frames := 5, cells := 0, slots := 0, locals := 107 } : Room) s m args below meth c D (cyT cy) B 7 (eV D (cyT cy) (mW cy A X9) B below args s σ') (mW cy A X9 σ_18) 0 0 69 [(0, .ref (A 0)), (1, .int r_2), (2, .int r_7), (3, .int v_10)] [.int v_17] := by
          refine g_istore X dX11_takesRun_69 (by decide) (lv' := [(4, .int v_17), (0, .ref (A 0)), (1, .int r_2), (2, .int r_7), (3, .int v_10)]) rfl ?_
          refine g_aload_n X dX11_takesRun_71 rfl 1 rfl ?_
          refine g_get X (AD := A) mm0 (mE_0 cy A σ_18) hin11 rfl 17 (by decide) lk0 (fun _ h9 => h9) rfl dX11_takesRun_72 ?_
          refine g_iconst X dX11_takesRun_75 (v := (-1 : Int32)) (by decide) ?_
          obtain ⟨v_25, σ_26, hj_73, h⟩ := bnd2_some h
          have K_27 : gG p l e ({ frames := 5, cells := 0, slots := 0, locals := 107 } : Room) s m args below meth c D (cyT cy) B 7 (eV D (cyT cy) (mW cy A X9) B below args s σ') (mW cy A X9 σ_26) 0 0 95 [(0, .ref (A 0)), (1, .int r_2), (2, .int r_7), (3, .int v_10), (4, .int v_17)] [.int v_25] := by
            refine g_istore X dX11_takesRun_95 (by decide) (lv' := [(5, .int v_25), (0, .ref (A 0)), (1, .int r_2), (2, .int r_7), (3, .int v_10), (4, .int v_17)]) rfl ?_
            refine g_iconst X dX11_takesRun_97 (v := (1 : Int32)) (by decide) ?_
            refine g_istore X dX11_takesRun_98 (by decide) (lv' := [(6, .int (1 : Int32)), (5, .int v_25), (0, .ref (A 0)), (1, .int r_2), (2, .int r_7), (3, .int v_10), (4, .int v_17)]) rfl ?_
            refine g_aload_n X dX11_takesRun_100 rfl 2 rfl ?_
            refine g_get X (AD := A) mm0 (mE_0 cy A σ_26) hin11 rfl 17 (by decide) lk0 (fun _ h9 => h9) rfl dX11_takesRun_101 ?_
            refine g_iconst X dX11_takesRun_104 (v := (-1 : Int32)) (by decide) ?_
            obtain ⟨v_33, σ_34, hj_72, h⟩ := bnd2_some h
            have K_35 : gG p l e ({ frames := 5, cells := 0, slots := 0, locals := 107 } : Room) s m args below meth c D (cyT cy) B 7 (eV D (cyT cy) (mW cy A X9) B below args s σ') (mW cy A X9 σ_34) 0 0 136 [(0, .ref (A 0)), (1, .int r_2), (2, .int r_7), (3, .int v_10), (4, .int v_17), (5, .int v_25), (6, .int v_33)] [] := by
              refine g_aload_n X dX11_takesRun_136 rfl 0 rfl ?_
              refine g_get X (AD := A) mm0 (mE_0 cy A σ_34) hin11 rfl 17 (by decide) lk0 (fun _ h9 => h9) rfl dX11_takesRun_137 ?_
              refine g_iconst X dX11_takesRun_140 (v := (-1 : Int32)) (by decide) ?_
              obtain ⟨σ_45, hj_71, h⟩ := bnd_some h
              have K_46 : gG p l e ({ frames := 5, cells := 0, slots := 0, locals := 107 } : Room) s m args below meth c D (cyT cy) B 7 (eV D (cyT cy) (mW cy A X9) B below args s σ') (mW cy A X9 σ_45) 0 0 156 [(0, .ref (A 0)), (1, .int r_2), (2, .int r_7), (3, .int v_10), (4, .int v_17), (5, .int v_25), (6, .int v_33)] [] := by
                refine g_aload_n X dX11_takesRun_156 rfl 0 rfl ?_
                refine g_get X (AD := A) mm0 (mE_0 cy A σ_45) hin11 rfl 17 (by decide) lk0 (fun _ h9 => h9) rfl dX11_takesRun_157 ?_
                refine g_iconst X dX11_takesRun_160 (v := (-1 : Int32)) (by decide) ?_
                refine g_icmp_eq X (tgt := 165) dX11_takesRun_161 (by decide) (fun hc_50 => ?_) (fun hc_50 => ?_)
                · have h := ift hc_50 h
                  refine g_aload_n X dX11_takesRun_165 rfl 0 rfl ?_
                  obtain ⟨σ_52, hf_51, h⟩ := bnd_some h
                  refine g_callVV (AD := A) (As := []) X (ZC_ok _ _ _ _ _) (m_X11_next hf_51) (cwV 0 X.1.2.2.2.2 gX11_takesRun_X11_next rfl rfl rfl (by decide +kernel) ⟨Nat.le_of_ble_eq_true rfl, Nat.le_of_ble_eq_true rfl⟩) rfl mm0 (mE_0 cy A σ_45) rfl rfl (Nat.le_of_ble_eq_true rfl) ⟨by decide, by decide⟩ dX11_takesRun_166 ?_
                  refine g_aload_n X dX11_takesRun_169 rfl 0 rfl ?_
                  refine g_get X (AD := A) mm0 (mE_0 cy A σ_52) hin11 rfl 18 (by decide) lk2 (fun _ h9 => h9) rfl dX11_takesRun_170 ?_
                  refine g_aload_n X dX11_takesRun_173 rfl 0 rfl ?_
                  refine g_get X (AD := A) mm0 (mE_0 cy A σ_52) hin11 rfl 24 (by decide) lk3 (fun _ h9 => h9) rfl dX11_takesRun_174 ?_
                  refine g_iload_n X dX11_takesRun_177 rfl 1 rfl ?_
                  obtain ⟨hg_53, h⟩ := grd_some h
                  refine g_iast X (AD := A) (σ' := sr σ_52 19 (upd (gr σ_52 19) (gi σ_52 24).toNatClampNeg r_2)) mm19 (mE_19 cy A σ_52) 0 rfl hg_53 (sm_a19 cy A σ_52 (upd (gr σ_52 19) (gi σ_52 24).toNatClampNeg r_2)) dX11_takesRun_178 ?_
                  obtain ⟨σ_54, e_55, h⟩ := bnd_some h
                  have e_55 := Option.some.inj e_55
                  rw [e_55]
                  refine g_aload_n X dX11_takesRun_179 rfl 0 rfl ?_
                  refine g_get X (AD := A) mm0 (mE_0 cy A σ_54) hin11 rfl 19 (by decide) lk4 (fun _ h9 => h9) rfl dX11_takesRun_180 ?_
                  refine g_aload_n X dX11_takesRun_183 rfl 0 rfl ?_
                  refine g_get X (AD := A) mm0 (mE_0 cy A σ_54) hin11 rfl 24 (by decide) lk3 (fun _ h9 => h9) rfl dX11_takesRun_184 ?_
                  refine g_iload_n X dX11_takesRun_187 rfl 2 rfl ?_
                  obtain ⟨hg_56, h⟩ := grd_some h
                  refine g_iast X (AD := A) (σ' := sr σ_54 20 (upd (gr σ_54 20) (gi σ_54 24).toNatClampNeg r_7)) mm20 (mE_20 cy A σ_54) 0 rfl hg_56 (sm_a20 cy A σ_54 (upd (gr σ_54 20) (gi σ_54 24).toNatClampNeg r_7)) dX11_takesRun_188 ?_
                  obtain ⟨σ_57, e_58, h⟩ := bnd_some h
                  have e_58 := Option.some.inj e_58
                  rw [e_58]
                  refine g_aload_n X dX11_takesRun_189 rfl 0 rfl ?_
                  refine g_get X (AD := A) mm0 (mE_0 cy A σ_57) hin11 rfl 20 (by decide) lk5 (fun _ h9 => h9) rfl dX11_takesRun_190 ?_
                  refine g_aload_n X dX11_takesRun_193 rfl 0 rfl ?_
                  refine g_get X (AD := A) mm0 (mE_0 cy A σ_57) hin11 rfl 24 (by decide) lk3 (fun _ h9 => h9) rfl dX11_takesRun_194 ?_
                  refine g_iload_n X dX11_takesRun_197 rfl 3 rfl ?_
                  obtain ⟨hg_59, h⟩ := grd_some h
                  refine g_iast X (AD := A) (σ' := sr σ_57 21 (upd (gr σ_57 21) (gi σ_57 24).toNatClampNeg v_10)) mm21 (mE_21 cy A σ_57) 0 rfl hg_59 (sm_a21 cy A σ_57 (upd (gr σ_57 21) (gi σ_57 24).toNatClampNeg v_10)) dX11_takesRun_198 ?_
                  obtain ⟨σ_60, e_61, h⟩ := bnd_some h
                  have e_61 := Option.some.inj e_61
                  rw [e_61]
                  refine g_aload_n X dX11_takesRun_199 rfl 0 rfl ?_
                  refine g_get X (AD := A) mm0 (mE_0 cy A σ_60) hin11 rfl 21 (by decide) lk6 (fun _ h9 => h9) rfl dX11_takesRun_200 ?_
                  refine g_aload_n X dX11_takesRun_203 rfl 0 rfl ?_
                  refine g_get X (AD := A) mm0 (mE_0 cy A σ_60) hin11 rfl 24 (by decide) lk3 (fun _ h9 => h9) rfl dX11_takesRun_204 ?_
                  refine g_iload X dX11_takesRun_207 4 rfl ?_
                  obtain ⟨hg_62, h⟩ := grd_some h
                  refine g_iast X (AD := A) (σ' := sr σ_60 22 (upd (gr σ_60 22) (gi σ_60 24).toNatClampNeg v_17)) mm22 (mE_22 cy A σ_60) 0 rfl hg_62 (sm_a22 cy A σ_60 (upd (gr σ_60 22) (gi σ_60 24).toNatClampNeg v_17)) dX11_takesRun_209 ?_
                  obtain ⟨σ_63, e_64, h⟩ := bnd_some h
                  have e_64 := Option.some.inj e_64
                  rw [e_64]
                  refine g_aload_n X dX11_takesRun_210 rfl 0 rfl ?_
                  refine g_get X (AD := A) mm0 (mE_0 cy A σ_63) hin11 rfl 22 (by decide) lk7 (fun _ h9 => h9) rfl dX11_takesRun_211 ?_
                  refine g_aload_n X dX11_takesRun_214 rfl 0 rfl ?_
                  refine g_get X (AD := A) mm0 (mE_0 cy A σ_63) hin11 rfl 24 (by decide) lk3 (fun _ h9 => h9) rfl dX11_takesRun_215 ?_
                  refine g_iload X dX11_takesRun_218 5 rfl ?_
                  obtain ⟨hg_65, h⟩ := grd_some h
                  refine g_iast X (AD := A) (σ' := sr σ_63 23 (upd (gr σ_63 23) (gi σ_63 24).toNatClampNeg v_25)) mm23 (mE_23 cy A σ_63) 0 rfl hg_65 (sm_a23 cy A σ_63 (upd (gr σ_63 23) (gi σ_63 24).toNatClampNeg v_25)) dX11_takesRun_220 ?_
                  obtain ⟨σ_66, e_67, h⟩ := bnd_some h
                  have e_67 := Option.some.inj e_67
                  rw [e_67]
                  refine g_aload_n X dX11_takesRun_221 rfl 0 rfl ?_
                  refine g_get X (AD := A) mm0 (mE_0 cy A σ_66) hin11 rfl 23 (by decide) lk8 (fun _ h9 => h9) rfl dX11_takesRun_222 ?_
                  refine g_aload_n X dX11_takesRun_225 rfl 0 rfl ?_
                  refine g_get X (AD := A) mm0 (mE_0 cy A σ_66) hin11 rfl 24 (by decide) lk3 (fun _ h9 => h9) rfl dX11_takesRun_226 ?_
                  refine g_iload X dX11_takesRun_229 6 rfl ?_
                  obtain ⟨hg_68, h⟩ := grd_some h
                  refine g_iast X (AD := A) (σ' := sr σ_66 24 (upd (gr σ_66 24) (gi σ_66 24).toNatClampNeg v_33)) mm24 (mE_24 cy A σ_66) 0 rfl hg_68 (sm_a24 cy A σ_66 (upd (gr σ_66 24) (gi σ_66 24).toNatClampNeg v_33)) dX11_takesRun_231 ?_
                  obtain ⟨σ_69, e_70, h⟩ := bnd_some h
                  have e_70 := Option.some.inj e_70
                  rw [e_70]
                  refine g_aload_n X dX11_takesRun_232 rfl 0 rfl ?_
                  refine g_dup X dX11_takesRun_233 rfl ?_
                  refine g_get X (AD := A) mm0 (mE_0 cy A σ_69) hin11 rfl 24 (by decide) lk3 (fun _ h9 => h9) rfl dX11_takesRun_234 ?_
                  refine g_iconst X dX11_takesRun_237 (v := (1 : Int32)) (by decide) ?_
                  refine g_iadd X dX11_takesRun_238 ?_
                  refine g_put X (AD := A) (ty := .int) (v := .int ((gi σ_69 24) + (1 : Int32))) (σ' := si σ_69 24 ((gi σ_69 24) + (1 : Int32))) mm0 (mE_0 cy A σ_69) hin11 rfl tyX11 tyX11_ok nmX11 24 (by decide) lk3 (fun _ h9 => h9) rfl (by decide +kernel) rfl rfl (Nat.le_of_ble_eq_true rfl) (sm_24 cy A σ_69 ((gi σ_69 24) + (1 : Int32))) dX11_takesRun_239 ?_
                  cases h
                  exact g_vret (Wf := mW cy A X9) X rfl dX11_takesRun_242
                · have h := iff_ hc_50 h
                  cases h
                  exact g_vret (Wf := mW cy A X9) X rfl dX11_takesRun_164
              have h := hj_71
              clear hj_71
              refine g_icmp_ne X (tgt := 156) dX11_takesRun_141 (by decide) (fun hc_44 => ?_) (fun hc_44 => ?_)
              · have h := iff_ hc_44 h
                cases h
                exact g_sub [0, 1, 2, 3, 4, 5, 6] rfl K_46
              · have h := ift hc_44 h
                refine g_aload_n X dX11_takesRun_144 rfl 0 rfl ?_
                refine g_get X (AD := A) mm0 (mE_0 cy A σ_34) hin11 rfl 14 (by decide) lk1 (fun _ h9 => h9) rfl dX11_takesRun_145 ?_
                refine g_iconst X dX11_takesRun_148 (v := (3 : Int32)) (by decide) ?_
                refine g_icmp_eq X (tgt := 156) dX11_takesRun_149 (by decide) (fun hc_47 => ?_) (fun hc_47 => ?_)
                · have h := ift hc_47 h
                  cases h
                  exact g_sub [0, 1, 2, 3, 4, 5, 6] rfl K_46
                · have h := iff_ hc_47 h
                  refine g_aload_n X dX11_takesRun_152 rfl 0 rfl ?_
                  obtain ⟨σ_49, hf_48, h⟩ := bnd_some h
                  refine g_callVV (AD := A) (As := []) X (ZC_ok _ _ _ _ _) (m_X11_isWrong hf_48) (cwV 0 X.1.2.2.2.2 gX11_takesRun_X11_isWrong rfl rfl rfl (by decide +kernel) ⟨Nat.le_of_ble_eq_true rfl, Nat.le_of_ble_eq_true rfl⟩) rfl mm0 (mE_0 cy A σ_34) rfl rfl (Nat.le_of_ble_eq_true rfl) ⟨by decide, by decide⟩ dX11_takesRun_153 ?_
                  cases h
                  exact g_sub [0, 1, 2, 3, 4, 5, 6] rfl K_46
            have h := hj_72
            clear hj_72
            refine g_icmp_ne X (tgt := 136) dX11_takesRun_105 (by decide) (fun hc_32 => ?_) (fun hc_32 => ?_)
            · have h := iff_ hc_32 h
              cases h
              exact g_sub [2, 3, 4, 5, 6, 1, 0] rfl K_35
            · have h := ift hc_32 h
              refine g_aload_n X dX11_takesRun_108 rfl 2 rfl ?_
              refine g_bipush X dX11_takesRun_109 (v := (109 : Int32)) (by decide) ?_
              refine g_bipush X dX11_takesRun_111 (v := (111 : Int32)) (by decide) ?_
              refine g_bipush X dX11_takesRun_113 (v := (100 : Int32)) (by decide) ?_
              refine g_iconst X dX11_takesRun_115 (v := (0 : Int32)) (by decide) ?_
              refine g_iconst X dX11_takesRun_116 (v := (0 : Int32)) (by decide) ?_
              obtain ⟨r_37, hf_36, h⟩ := bnd_some h
              refine g_callVI (AD := A) (As := [.int (109 : Int32), .int (111 : Int32), .int (100 : Int32), .int (0 : Int32), .int (0 : Int32)]) X (ZC_ok _ _ _ _ _) (m_X11_isWord hf_36) (cwV 5 X.1.2.2.2.2 gX11_takesRun_X11_isWord rfl rfl rfl (by decide +kernel) ⟨Nat.le_of_ble_eq_true rfl, Nat.le_of_ble_eq_true rfl⟩) rfl mm0 (mE_0 cy A σ_26) rfl rfl (Nat.le_of_ble_eq_true rfl) ⟨by decide, by decide⟩ dX11_takesRun_117 ?_
              refine g_if_eq X (tgt := 136) dX11_takesRun_120 (by decide) (fun hc_38 => ?_) (fun hc_38 => ?_)
              · have h := ift hc_38 h
                cases h
                exact g_sub [2, 3, 4, 5, 6, 1, 0] rfl K_35
              · have h := iff_ hc_38 h
                refine g_aload_n X dX11_takesRun_123 rfl 2 rfl ?_
                obtain ⟨σ_40, hf_39, h⟩ := bnd_some h
                refine g_callVV (AD := A) (As := []) X (ZC_ok _ _ _ _ _) (m_X11_next hf_39) (cwV 0 X.1.2.2.2.2 gX11_takesRun_X11_next rfl rfl rfl (by decide +kernel) ⟨Nat.le_of_ble_eq_true rfl, Nat.le_of_ble_eq_true rfl⟩) rfl mm0 (mE_0 cy A σ_26) rfl rfl (Nat.le_of_ble_eq_true rfl) ⟨by decide, by decide⟩ dX11_takesRun_124 ?_
                refine g_aload_n X dX11_takesRun_127 rfl 2 rfl ?_
                refine g_iconst X dX11_takesRun_128 (v := (1 : Int32)) (by decide) ?_
                refine g_bipush X dX11_takesRun_129 (v := (99 : Int32)) (by decide) ?_
                obtain ⟨r_42, σ_43, hf_41, h⟩ := bnd2_some h
                refine g_callVI (AD := A) (As := [.int (1 : Int32), .int (99 : Int32)]) X (ZC_ok _ _ _ _ _) (m_X11_takesNumber hf_41) (cwV 2 X.1.2.2.2.2 gX11_takesRun_X11_takesNumber rfl rfl rfl (by decide +kernel) ⟨Nat.le_of_ble_eq_true rfl, Nat.le_of_ble_eq_true rfl⟩) rfl mm0 (mE_0 cy A σ_40) rfl rfl (Nat.le_of_ble_eq_true rfl) ⟨by decide, by decide⟩ dX11_takesRun_131 ?_
                refine g_istore X dX11_takesRun_134 (by decide) (lv' := [(6, .int r_42), (5, .int v_25), (0, .ref (A 0)), (1, .int r_2), (2, .int r_7), (3, .int v_10), (4, .int v_17)]) rfl ?_
                cases h
                exact g_sub [2, 3, 4, 5, 6, 1, 0] rfl K_35
          have h := hj_73
          clear hj_73
          refine g_icmp_ne X (tgt := 94) dX11_takesRun_76 (by decide) (fun hc_24 => ?_) (fun hc_24 => ?_)
          · have h := iff_ hc_24 h
            refine g_iconst X dX11_takesRun_94 (v := (1 : Int32)) (by decide) ?_
            cases h
            exact g_sub [1, 2, 3, 4, 0] rfl K_27
          · have h := ift hc_24 h
            refine g_iload_n X dX11_takesRun_79 rfl 2 rfl ?_
            refine g_iconst X dX11_takesRun_80 (v := (5 : Int32)) (by decide) ?_
            refine g_icmp_ne X (tgt := 94) dX11_takesRun_81 (by decide) (fun hc_28 => ?_) (fun hc_28 => ?_)
            · have h := iff_ hc_28 h
              refine g_iconst X dX11_takesRun_94 (v := (1 : Int32)) (by decide) ?_
              cases h
              exact g_sub [1, 2, 3, 4, 0] rfl K_27
            · have h := ift hc_28 h
              refine g_aload_n X dX11_takesRun_84 rfl 1 rfl ?_
              refine g_iconst X dX11_takesRun_85 (v := (1 : Int32)) (by decide) ?_
              refine g_bipush X dX11_takesRun_86 (v := (99 : Int32)) (by decide) ?_
              obtain ⟨r_30, σ_31, hf_29, h⟩ := bnd2_some h
              refine g_callVI (AD := A) (As := [.int (1 : Int32), .int (99 : Int32)]) X (ZC_ok _ _ _ _ _) (m_X11_takesNumber hf_29) (cwV 2 X.1.2.2.2.2 gX11_takesRun_X11_takesNumber rfl rfl rfl (by decide +kernel) ⟨Nat.le_of_ble_eq_true rfl, Nat.le_of_ble_eq_true rfl⟩) rfl mm0 (mE_0 cy A σ_18) rfl rfl (Nat.le_of_ble_eq_true rfl) ⟨by decide, by decide⟩ dX11_takesRun_88 ?_
              refine g_goto X (tgt := 95) dX11_takesRun_91 (by decide) ?_
              cases h
              exact g_sub [1, 2, 3, 4, 0] rfl K_27
        have h := hj_74
        clear hj_74
        refine g_icmp_ne X (tgt := 68) dX11_takesRun_50 (by decide) (fun hc_16 => ?_) (fun hc_16 => ?_)
        · have h := iff_ hc_16 h
          refine g_iconst X dX11_takesRun_68 (v := (0 : Int32)) (by decide) ?_
          cases h
          exact g_sub [1, 2, 3, 0] rfl K_19
        · have h := ift hc_16 h
          refine g_iload_n X dX11_takesRun_53 rfl 2 rfl ?_
          refine g_if_eq X (tgt := 68) dX11_takesRun_54 (by decide) (fun hc_20 => ?_) (fun hc_20 => ?_)
          · have h := ift hc_20 h
            refine g_iconst X dX11_takesRun_68 (v := (0 : Int32)) (by decide) ?_
            cases h
            exact g_sub [1, 2, 3, 0] rfl K_19
          · have h := iff_ hc_20 h
            refine g_aload_n X dX11_takesRun_57 rfl 1 rfl ?_
            refine g_iconst X dX11_takesRun_58 (v := (0 : Int32)) (by decide) ?_
            refine g_sipush X dX11_takesRun_59 (v := (999 : Int32)) (by decide) ?_
            obtain ⟨r_22, σ_23, hf_21, h⟩ := bnd2_some h
            refine g_callVI (AD := A) (As := [.int (0 : Int32), .int (999 : Int32)]) X (ZC_ok _ _ _ _ _) (m_X11_takesNumber hf_21) (cwV 2 X.1.2.2.2.2 gX11_takesRun_X11_takesNumber rfl rfl rfl (by decide +kernel) ⟨Nat.le_of_ble_eq_true rfl, Nat.le_of_ble_eq_true rfl⟩) rfl mm0 (mE_0 cy A σ_11) rfl rfl (Nat.le_of_ble_eq_true rfl) ⟨by decide, by decide⟩ dX11_takesRun_62 ?_
            refine g_goto X (tgt := 69) dX11_takesRun_65 (by decide) ?_
            cases h
            exact g_sub [1, 2, 3, 0] rfl K_19
      have h := hj_75
      clear hj_75
      refine g_icmp_ne X (tgt := 43) dX11_takesRun_33 (by decide) (fun hc_9 => ?_) (fun hc_9 => ?_)
      · have h := iff_ hc_9 h
        refine g_iconst X dX11_takesRun_43 (v := (0 : Int32)) (by decide) ?_
        cases h
        exact g_sub [2, 1, 0] rfl K_12
      · have h := ift hc_9 h
        refine g_aload_n X dX11_takesRun_36 rfl 2 rfl ?_
        obtain ⟨r_14, σ_15, hf_13, h⟩ := bnd2_some h
        refine g_callVI (AD := A) (As := []) X (ZC_ok _ _ _ _ _) (m_X11_takesStart hf_13) (cwV 0 X.1.2.2.2.2 gX11_takesRun_X11_takesStart rfl rfl rfl (by decide +kernel) ⟨Nat.le_of_ble_eq_true rfl, Nat.le_of_ble_eq_true rfl⟩) rfl mm0 (mE_0 cy A σ_8) rfl rfl (Nat.le_of_ble_eq_true rfl) ⟨by decide, by decide⟩ dX11_takesRun_37 ?_
        refine g_goto X (tgt := 44) dX11_takesRun_40 (by decide) ?_
        cases h
        exact g_sub [2, 1, 0] rfl K_12
    · have h := ift hc_3 h
      refine g_aload_n X dX11_takesRun_10 rfl 1 rfl ?_
      obtain ⟨σ_77, hf_76, h⟩ := bnd_some h
      refine g_callVV (AD := A) (As := []) X (ZC_ok _ _ _ _ _) (m_X11_isWrong hf_76) (cwV 0 X.1.2.2.2.2 gX11_takesRun_X11_isWrong rfl rfl rfl (by decide +kernel) ⟨Nat.le_of_ble_eq_true rfl, Nat.le_of_ble_eq_true rfl⟩) rfl mm0 (mE_0 cy A σ) rfl rfl (Nat.le_of_ble_eq_true rfl) ⟨by decide, by decide⟩ dX11_takesRun_11 ?_
      cases h
      exact g_vret (Wf := mW cy A X9) X rfl dX11_takesRun_14
  exact K0
end MV
