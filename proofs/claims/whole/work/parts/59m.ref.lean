section MV
variable {D : va_G} {cy : Nat → ClassId} {A aK aO aS aV aT : Nat → Nat} {l : Launch} {X9 : va_W}
set_option maxHeartbeats 8000000 in
set_option maxRecDepth 100000 in
theorem m_X11_count {σ : St} {a1 : Int32} {r : Int32} {σ' : St} (h : f_X11_count a1 σ = some (r, σ')) : mI (ZC aK aO aS aV aT) D (cyT cy) l yX11_count wsX11_count ({ frames := 2, cells := 0, slots := 0, locals := 42 } : Room) (mW cy A X9) [.ref (A 0), .int a1] σ r σ' := by
  unfold f_X11_count at h
  refine mI_of (cc := cX11_count) (maxL := 2) (ret := (some .int)) (by decide) rfl (Nat.le_of_ble_eq_true rfl) (fun p e s m args below meth c B X => ?_)
  have hin11 : ∀ w ∈ wsX110, w ∈ wsX11_count := by decide +kernel
  have lk0 : Cond.fieldLink RX11 22 "CardcabinetModel" "many" "[I" ∈ wsX11_count := by decide +kernel
  have K0 : gG p l e ({ frames := 2, cells := 0, slots := 0, locals := 42 } : Room) s m args below meth c D (cyT cy) B 2 (eI D (cyT cy) (mW cy A X9) B below args s r σ') (mW cy A X9 σ) 0 0 0 [(0, .ref (A 0)), (1, .int a1)] [] := by
    refine g_iload_n X dX11_count_0 rfl 1 rfl ?_
    obtain ⟨r_2, hf_1, h⟩ := bnd_some h
    refine g_callSI (AD := A) (As := [.int a1]) X (ZC_ok _ _ _ _ _) (m_X11_isRow hf_1) (va_cwS 1 X.1.2.2.2.2 gX11_count_X11_isRow rfl rfl rfl (by decide +kernel) ⟨Nat.le_of_ble_eq_true rfl, Nat.le_of_ble_eq_true rfl⟩) rfl rfl (Nat.le_of_ble_eq_true rfl) ⟨by decide, by decide⟩ dX11_count_1 ?_
    obtain ⟨v_4, σ_5, hj_14, h⟩ := bnd2_some h
    have K_6 : gG p l e ({ frames := 2, cells := 0, slots := 0, locals := 42 } : Room) s m args below meth c D (cyT cy) B 2 (eI D (cyT cy) (mW cy A X9) B below args s r σ') (mW cy A X9 σ_5) 0 0 25 [] [.int v_4] := by
      cases h
      exact g_iret (Wf := mW cy A X9) X ⟨rfl, rfl⟩ dX11_count_25
    have h := hj_14
    clear hj_14
    refine g_if_eq X (tgt := 20) dX11_count_4 (by decide) (fun hc_3 => ?_) (fun hc_3 => ?_)
    · have h := ift hc_3 h
      refine g_aload_n X dX11_count_20 rfl 0 rfl ?_
      refine g_iconst X dX11_count_21 (v := (1 : Int32)) (by decide) ?_
      obtain ⟨r_8, σ_9, hf_7, h⟩ := bnd2_some h
      refine g_callVI (AD := A) (As := [.int (1 : Int32)]) X (ZC_ok _ _ _ _ _) (m_X11_refuse hf_7) (cwV 1 X.1.2.2.2.2 gX11_count_X11_refuse rfl rfl rfl (by decide +kernel) ⟨Nat.le_of_ble_eq_true rfl, Nat.le_of_ble_eq_true rfl⟩) rfl mm0 (mE_0 cy A σ) rfl rfl (Nat.le_of_ble_eq_true rfl) ⟨by decide, by decide⟩ dX11_count_22 ?_
      cases h
      exact g_sub [] rfl K_6
    · have h := iff_ hc_3 h
      refine g_aload_n X dX11_count_7 rfl 0 rfl ?_
      refine g_aload_n X dX11_count_8 rfl 0 rfl ?_
      refine g_get X (AD := A) mm0 (mE_0 cy A σ) hin11 rfl 5 (by decide) lk0 (fun _ h9 => h9) rfl dX11_count_9 ?_
      refine g_iload_n X dX11_count_12 rfl 1 rfl ?_
      obtain ⟨hg_10, h⟩ := grd_some h
      refine g_iald X (AD := A) mm6 (mE_6 cy A σ) 0 rfl hg_10 dX11_count_13 ?_
      obtain ⟨r_12, σ_13, hf_11, h⟩ := bnd2_some h
      refine g_callVI (AD := A) (As := [.int (gr σ 6 a1.toNatClampNeg)]) X (ZC_ok _ _ _ _ _) (m_X11_told hf_11) (cwV 1 X.1.2.2.2.2 gX11_count_X11_told rfl rfl rfl (by decide +kernel) ⟨Nat.le_of_ble_eq_true rfl, Nat.le_of_ble_eq_true rfl⟩) rfl mm0 (mE_0 cy A σ) rfl rfl (Nat.le_of_ble_eq_true rfl) ⟨by decide, by decide⟩ dX11_count_14 ?_
      refine g_goto X (tgt := 25) dX11_count_17 (by decide) ?_
      cases h
      exact g_sub [] rfl K_6
  exact K0
set_option maxHeartbeats 8000000 in
set_option maxRecDepth 100000 in
theorem m_X11_cardAt {σ : St} {a1 : Int32} {a2 : Int32} {a3 : Int32} {r : Int32} {σ' : St} (h : f_X11_cardAt a1 a2 a3 σ = some (r, σ')) : mI (ZC aK aO aS aV aT) D (cyT cy) l yX11_cardAt wsX11_cardAt ({ frames := 3, cells := 0, slots := 0, locals := 64 } : Room) (mW cy A X9) [.ref (A 0), .int a1, .int a2, .int a3] σ r σ' := by
  unfold f_X11_cardAt at h
  refine mI_of (cc := cX11_cardAt) (maxL := 5) (ret := (some .int)) (by decide) rfl (Nat.le_of_ble_eq_true rfl) (fun p e s m args below meth c B X => ?_)
  have hin11 : ∀ w ∈ wsX110, w ∈ wsX11_cardAt := by decide +kernel
  have lk0 : Cond.fieldLink RX11 16 "CardcabinetModel" "cards" "[I" ∈ wsX11_cardAt := by decide +kernel
  have lk1 : Cond.fieldLink RX11 7 "CardcabinetModel" "firsts" "[I" ∈ wsX11_cardAt := by decide +kernel
  have lk2 : Cond.fieldLink RX11 13 "CardcabinetModel" "seconds" "[I" ∈ wsX11_cardAt := by decide +kernel
  have K0 : gG p l e ({ frames := 3, cells := 0, slots := 0, locals := 64 } : Room) s m args below meth c D (cyT cy) B 5 (eI D (cyT cy) (mW cy A X9) B below args s r σ') (mW cy A X9 σ) 0 0 0 [(0, .ref (A 0)), (1, .int a1), (2, .int a2), (3, .int a3)] [] := by
    refine g_aload_n X dX11_cardAt_0 rfl 0 rfl ?_
    refine g_iload_n X dX11_cardAt_1 rfl 1 rfl ?_
    refine g_iload_n X dX11_cardAt_2 rfl 2 rfl ?_
    obtain ⟨r_2, hf_1, h⟩ := bnd_some h
    refine g_callVI (AD := A) (As := [.int a1, .int a2]) X (ZC_ok _ _ _ _ _) (m_X11_isPlace hf_1) (cwV 2 X.1.2.2.2.2 gX11_cardAt_X11_isPlace rfl rfl rfl (by decide +kernel) ⟨Nat.le_of_ble_eq_true rfl, Nat.le_of_ble_eq_true rfl⟩) rfl mm0 (mE_0 cy A σ) rfl rfl (Nat.le_of_ble_eq_true rfl) ⟨by decide, by decide⟩ dX11_cardAt_3 ?_
    refine g_if_ne X (tgt := 15) dX11_cardAt_6 (by decide) (fun hc_3 => ?_) (fun hc_3 => ?_)
    · have h := iff_ hc_3 h
      refine g_aload_n X dX11_cardAt_15 rfl 0 rfl ?_
      refine g_get X (AD := A) mm0 (mE_0 cy A σ) hin11 rfl 3 (by decide) lk0 (fun _ h9 => h9) rfl dX11_cardAt_16 ?_
      refine g_sipush X dX11_cardAt_19 (v := (800 : Int32)) (by decide) ?_
      refine g_iload_n X dX11_cardAt_22 rfl 1 rfl ?_
      refine g_imul X dX11_cardAt_23 ?_
      refine g_iload_n X dX11_cardAt_24 rfl 2 rfl ?_
      refine g_iadd X dX11_cardAt_25 ?_
      obtain ⟨hg_4, h⟩ := grd_some h
      refine g_iald X (AD := A) mm4 (mE_4 cy A σ) 0 rfl hg_4 dX11_cardAt_26 ?_
      refine g_istore X dX11_cardAt_27 (by decide) (lv' := [(4, .int (gr σ 4 (((800 : Int32) * a1) + a2).toNatClampNeg)), (0, .ref (A 0)), (1, .int a1), (2, .int a2), (3, .int a3)]) rfl ?_
      refine g_iload_n X dX11_cardAt_29 rfl 4 rfl ?_
      by_cases hc_9 : a3 = 0
      · have h := ift hc_9 h
        refine g_tabIn X (offq := 26) (tgt := 56) dX11_cardAt_30 (by rw [hc_9]; decide) (by rw [hc_9]; decide) (by rw [hc_9]; rfl) (by decide) ?_
        refine g_aload_n X dX11_cardAt_56 rfl 1 rfl ?_
        refine g_aload_n X dX11_cardAt_57 rfl 1 rfl ?_
        refine g_get X (AD := A) mm0 (mE_0 cy A σ) hin11 rfl 0 (by decide) lk1 (fun _ h9 => h9) rfl dX11_cardAt_58 ?_
        refine g_iload X dX11_cardAt_61 0 rfl ?_
        obtain ⟨hg_5, h⟩ := grd_some h
        refine g_iald X (AD := A) mm1 (mE_1 cy A σ) 0 rfl hg_5 dX11_cardAt_63 ?_
        obtain ⟨r_7, σ_8, hf_6, h⟩ := bnd2_some h
        refine g_callVI (AD := A) (As := [.int (gr σ 1 (gr σ 4 (((800 : Int32) * a1) + a2).toNatClampNeg).toNatClampNeg)]) X (ZC_ok _ _ _ _ _) (m_X11_told hf_6) (cwV 1 X.1.2.2.2.2 gX11_cardAt_X11_told rfl rfl rfl (by decide +kernel) ⟨Nat.le_of_ble_eq_true rfl, Nat.le_of_ble_eq_true rfl⟩) rfl mm0 (mE_0 cy A σ) rfl rfl (Nat.le_of_ble_eq_true rfl) ⟨by decide, by decide⟩ dX11_cardAt_64 ?_
        cases h
        exact g_iret (Wf := mW cy A X9) X ⟨rfl, rfl⟩ dX11_cardAt_67
      have h := iff_ hc_9 h
      by_cases hc_14 : a3 = 1
      · have h := ift hc_14 h
        refine g_tabIn X (offq := 38) (tgt := 68) dX11_cardAt_30 (by rw [hc_14]; decide) (by rw [hc_14]; decide) (by rw [hc_14]; rfl) (by decide) ?_
        refine g_aload_n X dX11_cardAt_68 rfl 1 rfl ?_
        refine g_aload_n X dX11_cardAt_69 rfl 1 rfl ?_
        refine g_get X (AD := A) mm0 (mE_0 cy A σ) hin11 rfl 1 (by decide) lk2 (fun _ h9 => h9) rfl dX11_cardAt_70 ?_
        refine g_iload X dX11_cardAt_73 0 rfl ?_
        obtain ⟨hg_10, h⟩ := grd_some h
        refine g_iald X (AD := A) mm2 (mE_2 cy A σ) 0 rfl hg_10 dX11_cardAt_75 ?_
        obtain ⟨r_12, σ_13, hf_11, h⟩ := bnd2_some h
        refine g_callVI (AD := A) (As := [.int (gr σ 2 (gr σ 4 (((800 : Int32) * a1) + a2).toNatClampNeg).toNatClampNeg)]) X (ZC_ok _ _ _ _ _) (m_X11_told hf_11) (cwV 1 X.1.2.2.2.2 gX11_cardAt_X11_told rfl rfl rfl (by decide +kernel) ⟨Nat.le_of_ble_eq_true rfl, Nat.le_of_ble_eq_true rfl⟩) rfl mm0 (mE_0 cy A σ) rfl rfl (Nat.le_of_ble_eq_true rfl) ⟨by decide, by decide⟩ dX11_cardAt_76 ?_
        cases h
        exact g_iret (Wf := mW cy A X9) X ⟨rfl, rfl⟩ dX11_cardAt_79
      have h := iff_ hc_14 h
      by_cases hc_18 : a3 = 2
      · have h := ift hc_18 h
        refine g_tabIn X (offq := 50) (tgt := 80) dX11_cardAt_30 (by rw [hc_18]; decide) (by rw [hc_18]; decide) (by rw [hc_18]; rfl) (by decide) ?_
        refine g_aload_n X dX11_cardAt_80 rfl 1 rfl ?_
        refine g_iload X dX11_cardAt_81 0 rfl ?_
        obtain ⟨r_16, σ_17, hf_15, h⟩ := bnd2_some h
        refine g_callVI (AD := A) (As := [.int (gr σ 4 (((800 : Int32) * a1) + a2).toNatClampNeg)]) X (ZC_ok _ _ _ _ _) (m_X11_told hf_15) (cwV 1 X.1.2.2.2.2 gX11_cardAt_X11_told rfl rfl rfl (by decide +kernel) ⟨Nat.le_of_ble_eq_true rfl, Nat.le_of_ble_eq_true rfl⟩) rfl mm0 (mE_0 cy A σ) rfl rfl (Nat.le_of_ble_eq_true rfl) ⟨by decide, by decide⟩ dX11_cardAt_83 ?_
        cases h
        exact g_iret (Wf := mW cy A X9) X ⟨rfl, rfl⟩ dX11_cardAt_86
      have h := iff_ hc_18 h
      have hn_22 : a3.toInt ≠ 0 := i32ne hc_9
      have hn_23 : a3.toInt ≠ 1 := i32ne hc_14
      have hn_24 : a3.toInt ≠ 2 := i32ne hc_18
      refine g_tabOut X (tgt := 87) dX11_cardAt_30 (by omega) (by decide) ?_
      refine g_aload_n X dX11_cardAt_87 rfl 1 rfl ?_
      refine g_iconst X dX11_cardAt_88 (v := (2 : Int32)) (by decide) ?_
      obtain ⟨r_20, σ_21, hf_19, h⟩ := bnd2_some h
      refine g_callVI (AD := A) (As := [.int (2 : Int32)]) X (ZC_ok _ _ _ _ _) (m_X11_refuse hf_19) (cwV 1 X.1.2.2.2.2 gX11_cardAt_X11_refuse rfl rfl rfl (by decide +kernel) ⟨Nat.le_of_ble_eq_true rfl, Nat.le_of_ble_eq_true rfl⟩) rfl mm0 (mE_0 cy A σ) rfl rfl (Nat.le_of_ble_eq_true rfl) ⟨by decide, by decide⟩ dX11_cardAt_89 ?_
      cases h
      exact g_iret (Wf := mW cy A X9) X ⟨rfl, rfl⟩ dX11_cardAt_92
    · have h := ift hc_3 h
      refine g_aload_n X dX11_cardAt_9 rfl 0 rfl ?_
      refine g_iconst X dX11_cardAt_10 (v := (1 : Int32)) (by decide) ?_
      obtain ⟨r_26, σ_27, hf_25, h⟩ := bnd2_some h
      refine g_callVI (AD := A) (As := [.int (1 : Int32)]) X (ZC_ok _ _ _ _ _) (m_X11_refuse hf_25) (cwV 1 X.1.2.2.2.2 gX11_cardAt_X11_refuse rfl rfl rfl (by decide +kernel) ⟨Nat.le_of_ble_eq_true rfl, Nat.le_of_ble_eq_true rfl⟩) rfl mm0 (mE_0 cy A σ) rfl rfl (Nat.le_of_ble_eq_true rfl) ⟨by decide, by decide⟩ dX11_cardAt_11 ?_
      cases h
      exact g_iret (Wf := mW cy A X9) X ⟨rfl, rfl⟩ dX11_cardAt_14
  exact K0
set_option maxHeartbeats 8000000 in
set_option maxRecDepth 100000 in
theorem m_X11_placeOf {σ : St} {a1 : Int32} {a2 : Int32} {r : Int32} {σ' : St} (h : f_X11_placeOf a1 a2 σ = some (r, σ')) : mI (ZC aK aO aS aV aT) D (cyT cy) l yX11_placeOf wsX11_placeOf ({ frames := 2, cells := 0, slots := 0, locals := 42 } : Room) (mW cy A X9) [.ref (A 0), .int a1, .int a2] σ r σ' := by
  unfold f_X11_placeOf at h
  refine mI_of (cc := cX11_placeOf) (maxL := 4) (ret := (some .int)) (by decide) rfl (Nat.le_of_ble_eq_true rfl) (fun p e s m args below meth c B X => ?_)
  have hin11 : ∀ w ∈ wsX110, w ∈ wsX11_placeOf := by decide +kernel
  have lk0 : Cond.fieldLink RX11 22 "CardcabinetModel" "many" "[I" ∈ wsX11_placeOf := by decide +kernel
  have lk1 : Cond.fieldLink RX11 16 "CardcabinetModel" "cards" "[I" ∈ wsX11_placeOf := by decide +kernel
  have K0 : gG p l e ({ frames := 2, cells := 0, slots := 0, locals := 42 } : Room) s m args below meth c D (cyT cy) B 4 (eI D (cyT cy) (mW cy A X9) B below args s r σ') (mW cy A X9 σ) 0 0 0 [(0, .ref (A 0)), (1, .int a1), (2, .int a2)] [] := by
    refine g_iload_n X dX11_placeOf_0 rfl 1 rfl ?_
    obtain ⟨r_2, hf_1, h⟩ := bnd_some h
    refine g_callSI (AD := A) (As := [.int a1]) X (ZC_ok _ _ _ _ _) (m_X11_isRow hf_1) (va_cwS 1 X.1.2.2.2.2 gX11_placeOf_X11_isRow rfl rfl rfl (by decide +kernel) ⟨Nat.le_of_ble_eq_true rfl, Nat.le_of_ble_eq_true rfl⟩) rfl rfl (Nat.le_of_ble_eq_true rfl) ⟨by decide, by decide⟩ dX11_placeOf_1 ?_
    refine g_if_ne X (tgt := 13) dX11_placeOf_4 (by decide) (fun hc_3 => ?_) (fun hc_3 => ?_)
    · have h := iff_ hc_3 h
      refine g_iconst X dX11_placeOf_13 (v := (0 : Int32)) (by decide) ?_
      refine g_istore_n X dX11_placeOf_14 rfl (by decide) (lv' := [(3, .int (0 : Int32)), (0, .ref (A 0)), (1, .int a1), (2, .int a2)]) rfl ?_
      have L_12 : ∀ (c_4 : Int32) (c_5 : Int32) (σ_7 : St) (n_8 : Nat) (v_6 : Int32) (o_21 : (Int32 × St) ⊕ (Unit)), f_X11_placeOf_L15 c_4 c_5 σ_7 n_8 v_6 = some o_21 → (∀ (u_13 : Unit), o_21 = .inr (u_13) → gG p l e ({ frames := 2, cells := 0, slots := 0, locals := 42 } : Room) s m args below meth c D (cyT cy) B 4 (eI D (cyT cy) (mW cy A X9) B below args s r σ') (mW cy A X9 σ_7) 0 0 53 [(0, .ref (A 0))] []) → (∀ r8, o_21 = .inl r8 → r8 = (r, σ')) → gG p l e ({ frames := 2, cells := 0, slots := 0, locals := 42 } : Room) s m args below meth c D (cyT cy) B 4 (eI D (cyT cy) (mW cy A X9) B below args s r σ') (mW cy A X9 σ_7) 0 0 15 [(0, .ref (A 0)), (1, .int c_4), (2, .int c_5), (3, .int v_6)] [] := by
        intro c_4 c_5 σ_7 n_8
        induction n_8 with
        | zero =>
          intro v_6 o_21 h K_10 K_11
          rw [f_X11_placeOf_L15] at h
          cases h
        | succ n_8 ih_9 =>
          intro v_6 o_21 h K_10 K_11
          rw [f_X11_placeOf_L15] at h
          refine g_iload_n X dX11_placeOf_15 rfl 3 rfl ?_
          refine g_aload_n X dX11_placeOf_16 rfl 0 rfl ?_
          refine g_get X (AD := A) mm0 (mE_0 cy A σ_7) hin11 rfl 5 (by decide) lk0 (fun _ h9 => h9) rfl dX11_placeOf_17 ?_
          refine g_iload_n X dX11_placeOf_20 rfl 1 rfl ?_
          obtain ⟨hg_14, h⟩ := grd_some h
          refine g_iald X (AD := A) mm6 (mE_6 cy A σ_7) 0 rfl hg_14 dX11_placeOf_21 ?_
          refine g_icmp_ge X (tgt := 53) dX11_placeOf_22 (by decide) (fun hc_15 => ?_) (fun hc_15 => ?_)
          · have h := ift hc_15 h
            cases h
            exact g_sub [0] rfl (K_10 _ rfl)
          · have h := iff_ hc_15 h
            refine g_aload_n X dX11_placeOf_25 rfl 0 rfl ?_
            refine g_get X (AD := A) mm0 (mE_0 cy A σ_7) hin11 rfl 3 (by decide) lk1 (fun _ h9 => h9) rfl dX11_placeOf_26 ?_
            refine g_sipush X dX11_placeOf_29 (v := (800 : Int32)) (by decide) ?_
            refine g_iload_n X dX11_placeOf_32 rfl 1 rfl ?_
            refine g_imul X dX11_placeOf_33 ?_
            refine g_iload_n X dX11_placeOf_34 rfl 3 rfl ?_
            refine g_iadd X dX11_placeOf_35 ?_
            obtain ⟨hg_16, h⟩ := grd_some h
            refine g_iald X (AD := A) mm4 (mE_4 cy A σ_7) 0 rfl hg_16 dX11_placeOf_36 ?_
            refine g_iload_n X dX11_placeOf_37 rfl 2 rfl ?_
            refine g_icmp_ne X (tgt := 47) dX11_placeOf_38 (by decide) (fun hc_17 => ?_) (fun hc_17 => ?_)
            · have h := iff_ hc_17 h
              refine g_iinc X dX11_placeOf_47 3 rfl (v := v_6 + (1 : Int32)) rfl (by decide) (lv' := [(3, .int (v_6 + (1 : Int32))), (0, .ref (A 0)), (1, .int c_4), (2, .int c_5)]) rfl ?_
              refine g_goto X (tgt := 15) dX11_placeOf_50 (by decide) ?_
              exact g_sub [1, 2, 3, 0] rfl (ih_9 _ _ h K_10 K_11)
            · have h := ift hc_17 h
              refine g_aload_n X dX11_placeOf_41 rfl 0 rfl ?_
              refine g_iload_n X dX11_placeOf_42 rfl 3 rfl ?_
              obtain ⟨r_19, σ_20, hf_18, h⟩ := bnd2_some h
              refine g_callVI (AD := A) (As := [.int v_6]) X (ZC_ok _ _ _ _ _) (m_X11_told hf_18) (cwV 1 X.1.2.2.2.2 gX11_placeOf_X11_told rfl rfl rfl (by decide +kernel) ⟨Nat.le_of_ble_eq_true rfl, Nat.le_of_ble_eq_true rfl⟩) rfl mm0 (mE_0 cy A σ_7) rfl rfl (Nat.le_of_ble_eq_true rfl) ⟨by decide, by decide⟩ dX11_placeOf_43 ?_
              cases h
              cases K_11 _ rfl
              exact g_iret (Wf := mW cy A X9) X ⟨rfl, rfl⟩ dX11_placeOf_46
      rcases bndR_some h with ⟨r9, hl_22, he9⟩ | ⟨o9, hl_22, h⟩
      · exact g_sub [1, 2, 3, 0] rfl (L_12 a1 a2 σ FU (0 : Int32) (.inl r9) hl_22 (fun u_13 e9 => nomatch e9) (fun r8 e9 => by cases e9; exact he9))
      · obtain ⟨u_13, rfl⟩ : ∃ z, z = o9 := ⟨_, rfl⟩
        refine g_sub [1, 2, 3, 0] rfl (L_12 a1 a2 σ FU (0 : Int32) (.inr u_13) hl_22 (fun u_13z e9 => ?_) (fun r8 e9 => nomatch e9))
        cases e9
        refine g_aload_n X dX11_placeOf_53 rfl 0 rfl ?_
        refine g_iconst X dX11_placeOf_54 (v := (-1 : Int32)) (by decide) ?_
        obtain ⟨r_24, σ_25, hf_23, h⟩ := bnd2_some h
        refine g_callVI (AD := A) (As := [.int (-1 : Int32)]) X (ZC_ok _ _ _ _ _) (m_X11_told hf_23) (cwV 1 X.1.2.2.2.2 gX11_placeOf_X11_told rfl rfl rfl (by decide +kernel) ⟨Nat.le_of_ble_eq_true rfl, Nat.le_of_ble_eq_true rfl⟩) rfl mm0 (mE_0 cy A σ) rfl rfl (Nat.le_of_ble_eq_true rfl) ⟨by decide, by decide⟩ dX11_placeOf_55 ?_
        cases h
        exact g_iret (Wf := mW cy A X9) X ⟨rfl, rfl⟩ dX11_placeOf_58
    · have h := ift hc_3 h
      refine g_aload_n X dX11_placeOf_7 rfl 0 rfl ?_
      refine g_iconst X dX11_placeOf_8 (v := (1 : Int32)) (by decide) ?_
      obtain ⟨r_27, σ_28, hf_26, h⟩ := bnd2_some h
      refine g_callVI (AD := A) (As := [.int (1 : Int32)]) X (ZC_ok _ _ _ _ _) (m_X11_refuse hf_26) (cwV 1 X.1.2.2.2.2 gX11_placeOf_X11_refuse rfl rfl rfl (by decide +kernel) ⟨Nat.le_of_ble_eq_true rfl, Nat.le_of_ble_eq_true rfl⟩) rfl mm0 (mE_0 cy A σ) rfl rfl (Nat.le_of_ble_eq_true rfl) ⟨by decide, by decide⟩ dX11_placeOf_9 ?_
      cases h
      exact g_iret (Wf := mW cy A X9) X ⟨rfl, rfl⟩ dX11_placeOf_12
  exact K0
set_option maxHeartbeats 8000000 in
set_option maxRecDepth 100000 in
theorem m_X11_rises {σ : St} {a1 : Int32} {a2 : Int32} {r : Int32} (h : f_X11_rises a1 a2 σ = some r) : mI (ZC aK aO aS aV aT) D (cyT cy) l yX11_rises wsX11_rises ({ frames := 1, cells := 0, slots := 0, locals := 22 } : Room) (mW cy A X9) [.ref (A 0), .int a1, .int a2] σ r σ := by
  unfold f_X11_rises at h
  refine mI_of (cc := cX11_rises) (maxL := 3) (ret := (some .boolean)) (by decide) rfl (Nat.le_of_ble_eq_true rfl) (fun p e s m args below meth c B X => ?_)
  have K0 : gG p l e ({ frames := 1, cells := 0, slots := 0, locals := 22 } : Room) s m args below meth c D (cyT cy) B 3 (eI D (cyT cy) (mW cy A X9) B below args s r σ) (mW cy A X9 σ) 0 0 0 [(0, .ref (A 0)), (1, .int a1), (2, .int a2)] [] := by
    refine g_aload_n X dX11_rises_0 rfl 0 rfl ?_
    refine g_iload_n X dX11_rises_1 rfl 1 rfl ?_
    refine g_iload_n X dX11_rises_2 rfl 2 rfl ?_
    obtain ⟨r_2, hf_1, h⟩ := bnd_some h
    refine g_callVI (AD := A) (As := [.int a1, .int a2]) X (ZC_ok _ _ _ _ _) (m_X11_firstAt hf_1) (cwV 2 X.1.2.2.2.2 gX11_rises_X11_firstAt rfl rfl rfl (by decide +kernel) ⟨Nat.le_of_ble_eq_true rfl, Nat.le_of_ble_eq_true rfl⟩) rfl mm0 (mE_0 cy A σ) rfl rfl (Nat.le_of_ble_eq_true rfl) ⟨by decide, by decide⟩ dX11_rises_3 ?_
    refine g_aload_n X dX11_rises_6 rfl 0 rfl ?_
    refine g_iload_n X dX11_rises_7 rfl 1 rfl ?_
    refine g_iload_n X dX11_rises_8 rfl 2 rfl ?_
    refine g_iconst X dX11_rises_9 (v := (1 : Int32)) (by decide) ?_
    refine g_isub X dX11_rises_10 ?_
    obtain ⟨r_4, hf_3, h⟩ := bnd_some h
    refine g_callVI (AD := A) (As := [.int a1, .int (a2 - (1 : Int32))]) X (ZC_ok _ _ _ _ _) (m_X11_firstAt hf_3) (cwV 2 X.1.2.2.2.2 gX11_rises_X11_firstAt rfl rfl rfl (by decide +kernel) ⟨Nat.le_of_ble_eq_true rfl, Nat.le_of_ble_eq_true rfl⟩) rfl mm0 (mE_0 cy A σ) rfl rfl (Nat.le_of_ble_eq_true rfl) ⟨by decide, by decide⟩ dX11_rises_11 ?_
    obtain ⟨v_6, hj_9, h⟩ := bnd_some h
    have K_7 : gG p l e ({ frames := 1, cells := 0, slots := 0, locals := 22 } : Room) s m args below meth c D (cyT cy) B 3 (eI D (cyT cy) (mW cy A X9) B below args s r σ) (mW cy A X9 σ) 0 0 22 [] [.int v_6] := by
      obtain ⟨hg_8, h⟩ := grd_some h
      cases h
      exact g_zret (Wf := mW cy A X9) X (nar01 hg_8) ⟨rfl, rfl⟩ dX11_rises_22
    have h := hj_9
    clear hj_9
    refine g_icmp_lt X (tgt := 21) dX11_rises_14 (by decide) (fun hc_5 => ?_) (fun hc_5 => ?_)
    · have h := ift hc_5 h
      refine g_iconst X dX11_rises_21 (v := (0 : Int32)) (by decide) ?_
      cases h
      exact g_sub [] rfl K_7
    · have h := iff_ hc_5 h
      refine g_iconst X dX11_rises_17 (v := (1 : Int32)) (by decide) ?_
      refine g_goto X (tgt := 22) dX11_rises_18 (by decide) ?_
      cases h
      exact g_sub [] rfl K_7
  exact K0
set_option maxHeartbeats 8000000 in
set_option maxRecDepth 100000 in
theorem m_X11_runsOf {σ : St} {a1 : Int32} {r : Int32} (h : f_X11_runsOf a1 σ = some r) : mI (ZC aK aO aS aV aT) D (cyT cy) l yX11_runsOf wsX11_runsOf ({ frames := 2, cells := 0, slots := 0, locals := 44 } : Room) (mW cy A X9) [.ref (A 0), .int a1] σ r σ := by
  unfold f_X11_runsOf at h
  refine mI_of (cc := cX11_runsOf) (maxL := 4) (ret := (some .int)) (by decide) rfl (Nat.le_of_ble_eq_true rfl) (fun p e s m args below meth c B X => ?_)
  have hin11 : ∀ w ∈ wsX110, w ∈ wsX11_runsOf := by decide +kernel
  have lk0 : Cond.fieldLink RX11 22 "CardcabinetModel" "many" "[I" ∈ wsX11_runsOf := by decide +kernel
  have K0 : gG p l e ({ frames := 2, cells := 0, slots := 0, locals := 44 } : Room) s m args below meth c D (cyT cy) B 4 (eI D (cyT cy) (mW cy A X9) B below args s r σ) (mW cy A X9 σ) 0 0 0 [(0, .ref (A 0)), (1, .int a1)] [] := by
    refine g_aload_n X dX11_runsOf_0 rfl 0 rfl ?_
    refine g_get X (AD := A) mm0 (mE_0 cy A σ) hin11 rfl 5 (by decide) lk0 (fun _ h9 => h9) rfl dX11_runsOf_1 ?_
    refine g_iload_n X dX11_runsOf_4 rfl 1 rfl ?_
    obtain ⟨hg_1, h⟩ := grd_some h
    refine g_iald X (AD := A) mm6 (mE_6 cy A σ) 0 rfl hg_1 dX11_runsOf_5 ?_
    obtain ⟨v_3, hj_25, h⟩ := bnd_some h
    have K_4 : gG p l e ({ frames := 2, cells := 0, slots := 0, locals := 44 } : Room) s m args below meth c D (cyT cy) B 4 (eI D (cyT cy) (mW cy A X9) B below args s r σ) (mW cy A X9 σ) 0 0 14 [(0, .ref (A 0)), (1, .int a1)] [.int v_3] := by
      refine g_istore_n X dX11_runsOf_14 rfl (by decide) (lv' := [(2, .int v_3), (0, .ref (A 0)), (1, .int a1)]) rfl ?_
      refine g_iconst X dX11_runsOf_15 (v := (1 : Int32)) (by decide) ?_
      refine g_istore_n X dX11_runsOf_16 rfl (by decide) (lv' := [(3, .int (1 : Int32)), (2, .int v_3), (0, .ref (A 0)), (1, .int a1)]) rfl ?_
      have L_13 : ∀ (c_5 : Int32) (σ_8 : St) (hq_15 : σ_8 = σ) (n_9 : Nat) (v_6 : Int32) (v_7 : Int32) (o_14 : Int32), f_X11_runsOf_L17 c_5 σ_8 n_9 v_6 v_7 = some (o_14) → gG p l e ({ frames := 2, cells := 0, slots := 0, locals := 44 } : Room) s m args below meth c D (cyT cy) B 4 (eI D (cyT cy) (mW cy A X9) B below args s r σ) (mW cy A X9 σ_8) 0 0 50 [(2, .int o_14)] [] → gG p l e ({ frames := 2, cells := 0, slots := 0, locals := 44 } : Room) s m args below meth c D (cyT cy) B 4 (eI D (cyT cy) (mW cy A X9) B below args s r σ) (mW cy A X9 σ_8) 0 0 17 [(0, .ref (A 0)), (1, .int c_5), (2, .int v_6), (3, .int v_7)] [] := by
        intro c_5 σ_8 hq_15 n_9
        induction n_9 with
        | zero =>
          intro v_6 v_7 o_14 h K_11
          rw [f_X11_runsOf_L17] at h
          cases h
        | succ n_9 ih_10 =>
          intro v_6 v_7 o_14 h K_11
          rw [f_X11_runsOf_L17] at h
          refine g_iload_n X dX11_runsOf_17 rfl 3 rfl ?_
          refine g_aload_n X dX11_runsOf_18 rfl 0 rfl ?_
          refine g_get X (AD := A) mm0 (mE_0 cy A σ_8) hin11 rfl 5 (by decide) lk0 (fun _ h9 => h9) rfl dX11_runsOf_19 ?_
          refine g_iload_n X dX11_runsOf_22 rfl 1 rfl ?_
          obtain ⟨hg_16, h⟩ := grd_some h
          refine g_iald X (AD := A) mm6 (mE_6 cy A σ_8) 0 rfl hg_16 dX11_runsOf_23 ?_
          refine g_icmp_ge X (tgt := 50) dX11_runsOf_24 (by decide) (fun hc_17 => ?_) (fun hc_17 => ?_)
          · have h := ift hc_17 h
            cases h
            exact g_sub [2] rfl K_11
          · have h := iff_ hc_17 h
            refine g_iload_n X dX11_runsOf_27 rfl 2 rfl ?_
            refine g_aload_n X dX11_runsOf_28 rfl 0 rfl ?_
            refine g_iload_n X dX11_runsOf_29 rfl 1 rfl ?_
            refine g_iload_n X dX11_runsOf_30 rfl 3 rfl ?_
            obtain ⟨r_19, hf_18, h⟩ := bnd_some h
            refine g_callVI (AD := A) (As := [.int c_5, .int v_7]) X (ZC_ok _ _ _ _ _) (m_X11_rises hf_18) (cwV 2 X.1.2.2.2.2 gX11_runsOf_X11_rises rfl rfl rfl (by decide +kernel) ⟨Nat.le_of_ble_eq_true rfl, Nat.le_of_ble_eq_true rfl⟩) rfl mm0 (mE_0 cy A σ_8) rfl rfl (Nat.le_of_ble_eq_true rfl) ⟨by decide, by decide⟩ dX11_runsOf_31 ?_
            obtain ⟨v_21, hj_23, h⟩ := bnd_some h
            have K_22 : gG p l e ({ frames := 2, cells := 0, slots := 0, locals := 44 } : Room) s m args below meth c D (cyT cy) B 4 (eI D (cyT cy) (mW cy A X9) B below args s r σ) (mW cy A X9 σ_8) 0 0 42 [(0, .ref (A 0)), (1, .int c_5), (3, .int v_7)] [.int v_21, .int v_6] := by
              refine g_iadd X dX11_runsOf_42 ?_
              refine g_istore_n X dX11_runsOf_43 rfl (by decide) (lv' := [(2, .int (v_6 + v_21)), (0, .ref (A 0)), (1, .int c_5), (3, .int v_7)]) rfl ?_
              refine g_iinc X dX11_runsOf_44 3 rfl (v := v_7 + (1 : Int32)) rfl (by decide) (lv' := [(3, .int (v_7 + (1 : Int32))), (2, .int (v_6 + v_21)), (0, .ref (A 0)), (1, .int c_5)]) rfl ?_
              refine g_goto X (tgt := 17) dX11_runsOf_47 (by decide) ?_
              exact g_sub [2, 3, 1, 0] rfl (ih_10 _ _ _ h K_11)
            have h := hj_23
            clear hj_23
            refine g_if_eq X (tgt := 41) dX11_runsOf_34 (by decide) (fun hc_20 => ?_) (fun hc_20 => ?_)
            · have h := ift hc_20 h
              refine g_iconst X dX11_runsOf_41 (v := (1 : Int32)) (by decide) ?_
              cases h
              exact g_sub [0, 1, 3] rfl K_22
            · have h := iff_ hc_20 h
              refine g_iconst X dX11_runsOf_37 (v := (0 : Int32)) (by decide) ?_
              refine g_goto X (tgt := 42) dX11_runsOf_38 (by decide) ?_
              cases h
              exact g_sub [0, 1, 3] rfl K_22
      obtain ⟨o_14, hl_24, h⟩ := bnd_some h
      refine g_sub [2, 3, 1, 0] rfl (L_13 a1 σ rfl FU v_3 (1 : Int32) o_14 hl_24 ?_)
      refine g_iload_n X dX11_runsOf_50 rfl 0 rfl ?_
      cases h
      exact g_iret (Wf := mW cy A X9) X ⟨rfl, rfl⟩ dX11_runsOf_51
    have h := hj_25
    clear hj_25
    refine g_if_ne X (tgt := 13) dX11_runsOf_6 (by decide) (fun hc_2 => ?_) (fun hc_2 => ?_)
    · have h := iff_ hc_2 h
      refine g_iconst X dX11_runsOf_13 (v := (1 : Int32)) (by decide) ?_
      cases h
      exact g_sub [0, 1] rfl K_4
    · have h := ift hc_2 h
      refine g_iconst X dX11_runsOf_9 (v := (0 : Int32)) (by decide) ?_
      refine g_goto X (tgt := 14) dX11_runsOf_10 (by decide) ?_
      cases h
      exact g_sub [0, 1] rfl K_4
  exact K0
set_option maxHeartbeats 8000000 in
set_option maxRecDepth 100000 in
theorem m_X11_longestOf {σ : St} {a1 : Int32} {r : Int32} (h : f_X11_longestOf a1 σ = some r) : mI (ZC aK aO aS aV aT) D (cyT cy) l yX11_longestOf wsX11_longestOf ({ frames := 2, cells := 0, slots := 0, locals := 44 } : Room) (mW cy A X9) [.ref (A 0), .int a1] σ r σ := by
  unfold f_X11_longestOf at h
  refine mI_of (cc := cX11_longestOf) (maxL := 5) (ret := (some .int)) (by decide) rfl (Nat.le_of_ble_eq_true rfl) (fun p e s m args below meth c B X => ?_)
  have hin11 : ∀ w ∈ wsX110, w ∈ wsX11_longestOf := by decide +kernel
  have lk0 : Cond.fieldLink RX11 22 "CardcabinetModel" "many" "[I" ∈ wsX11_longestOf := by decide +kernel
  have K0 : gG p l e ({ frames := 2, cells := 0, slots := 0, locals := 44 } : Room) s m args below meth c D (cyT cy) B 5 (eI D (cyT cy) (mW cy A X9) B below args s r σ) (mW cy A X9 σ) 0 0 0 [(0, .ref (A 0)), (1, .int a1)] [] := by
    refine g_iconst X dX11_longestOf_0 (v := (0 : Int32)) (by decide) ?_
    refine g_istore_n X dX11_longestOf_1 rfl (by decide) (lv' := [(2, .int (0 : Int32)), (0, .ref (A 0)), (1, .int a1)]) rfl ?_
    refine g_iconst X dX11_longestOf_2 (v := (0 : Int32)) (by decide) ?_
    refine g_istore_n X dX11_longestOf_3 rfl (by decide) (lv' := [(3, .int (0 : Int32)), (2, .int (0 : Int32)), (0, .ref (A 0)), (1, .int a1)]) rfl ?_
    refine g_iconst X dX11_longestOf_4 (v := (0 : Int32)) (by decide) ?_
    refine g_istore X dX11_longestOf_5 (by decide) (lv' := [(4, .int (0 : Int32)), (3, .int (0 : Int32)), (2, .int (0 : Int32)), (0, .ref (A 0)), (1, .int a1)]) rfl ?_
    have L_10 : ∀ (c_1 : Int32) (σ_5 : St) (hq_12 : σ_5 = σ) (n_6 : Nat) (v_2 : Int32) (v_3 : Int32) (v_4 : Int32) (o_11 : Int32), f_X11_longestOf_L7 c_1 σ_5 n_6 v_2 v_3 v_4 = some (o_11) → gG p l e ({ frames := 2, cells := 0, slots := 0, locals := 44 } : Room) s m args below meth c D (cyT cy) B 5 (eI D (cyT cy) (mW cy A X9) B below args s r σ) (mW cy A X9 σ_5) 0 0 53 [(2, .int o_11)] [] → gG p l e ({ frames := 2, cells := 0, slots := 0, locals := 44 } : Room) s m args below meth c D (cyT cy) B 5 (eI D (cyT cy) (mW cy A X9) B below args s r σ) (mW cy A X9 σ_5) 0 0 7 [(0, .ref (A 0)), (1, .int c_1), (2, .int v_2), (3, .int v_3), (4, .int v_4)] [] := by
      intro c_1 σ_5 hq_12 n_6
      induction n_6 with
      | zero =>
        intro v_2 v_3 v_4 o_11 h K_8
        rw [f_X11_longestOf_L7] at h
        cases h
      | succ n_6 ih_7 =>
        intro v_2 v_3 v_4 o_11 h K_8
        rw [f_X11_longestOf_L7] at h
        refine g_iload X dX11_longestOf_7 4 rfl ?_
        refine g_aload_n X dX11_longestOf_9 rfl 0 rfl ?_
        refine g_get X (AD := A) mm0 (mE_0 cy A σ_5) hin11 rfl 5 (by decide) lk0 (fun _ h9 => h9) rfl dX11_longestOf_10 ?_
        refine g_iload_n X dX11_longestOf_13 rfl 1 rfl ?_
        obtain ⟨hg_13, h⟩ := grd_some h
        refine g_iald X (AD := A) mm6 (mE_6 cy A σ_5) 0 rfl hg_13 dX11_longestOf_14 ?_
        refine g_icmp_ge X (tgt := 53) dX11_longestOf_15 (by decide) (fun hc_14 => ?_) (fun hc_14 => ?_)
        · have h := ift hc_14 h
          cases h
          exact g_sub [2] rfl K_8
        · have h := iff_ hc_14 h
          refine g_iload X dX11_longestOf_18 4 rfl ?_
          obtain ⟨v_16, hj_23, h⟩ := bnd_some h
          have K_17 : gG p l e ({ frames := 2, cells := 0, slots := 0, locals := 44 } : Room) s m args below meth c D (cyT cy) B 5 (eI D (cyT cy) (mW cy A X9) B below args s r σ) (mW cy A X9 σ_5) 0 0 40 [(0, .ref (A 0)), (1, .int c_1), (2, .int v_2), (4, .int v_4)] [.int v_16] := by
            refine g_istore_n X dX11_longestOf_40 rfl (by decide) (lv' := [(3, .int v_16), (0, .ref (A 0)), (1, .int c_1), (2, .int v_2), (4, .int v_4)]) rfl ?_
            refine g_iload_n X dX11_longestOf_41 rfl 3 rfl ?_
            refine g_iload_n X dX11_longestOf_42 rfl 0 rfl ?_
            obtain ⟨r_22, hf_21, h⟩ := bnd_some h
            refine g_callSI (AD := A) (As := [.int v_2, .int v_16]) X (ZC_ok _ _ _ _ _) (m_X11_more hf_21) (va_cwS 2 X.1.2.2.2.2 gX11_longestOf_X11_more rfl rfl rfl (by decide +kernel) ⟨Nat.le_of_ble_eq_true rfl, Nat.le_of_ble_eq_true rfl⟩) rfl rfl (Nat.le_of_ble_eq_true rfl) ⟨by decide, by decide⟩ dX11_longestOf_43 ?_
            refine g_istore_n X dX11_longestOf_46 rfl (by decide) (lv' := [(2, .int r_22), (3, .int v_16), (0, .ref (A 0)), (1, .int c_1), (4, .int v_4)]) rfl ?_
            refine g_iinc X dX11_longestOf_47 4 rfl (v := v_4 + (1 : Int32)) rfl (by decide) (lv' := [(4, .int (v_4 + (1 : Int32))), (2, .int r_22), (3, .int v_16), (0, .ref (A 0)), (1, .int c_1)]) rfl ?_
            refine g_goto X (tgt := 7) dX11_longestOf_50 (by decide) ?_
            exact g_sub [3, 4, 1, 2, 0] rfl (ih_7 _ _ _ _ h K_8)
          have h := hj_23
          clear hj_23
          refine g_if_le X (tgt := 39) dX11_longestOf_20 (by decide) (fun hc_15 => ?_) (fun hc_15 => ?_)
          · have h := ift hc_15 h
            refine g_iconst X dX11_longestOf_39 (v := (1 : Int32)) (by decide) ?_
            cases h
            exact g_sub [0, 1, 2, 4] rfl K_17
          · have h := iff_ hc_15 h
            refine g_aload_n X dX11_longestOf_23 rfl 0 rfl ?_
            refine g_iload_n X dX11_longestOf_24 rfl 1 rfl ?_
            refine g_iload X dX11_longestOf_25 4 rfl ?_
            obtain ⟨r_19, hf_18, h⟩ := bnd_some h
            refine g_callVI (AD := A) (As := [.int c_1, .int v_4]) X (ZC_ok _ _ _ _ _) (m_X11_rises hf_18) (cwV 2 X.1.2.2.2.2 gX11_longestOf_X11_rises rfl rfl rfl (by decide +kernel) ⟨Nat.le_of_ble_eq_true rfl, Nat.le_of_ble_eq_true rfl⟩) rfl mm0 (mE_0 cy A σ_5) rfl rfl (Nat.le_of_ble_eq_true rfl) ⟨by decide, by decide⟩ dX11_longestOf_27 ?_
            refine g_if_eq X (tgt := 39) dX11_longestOf_30 (by decide) (fun hc_20 => ?_) (fun hc_20 => ?_)
            · have h := ift hc_20 h
              refine g_iconst X dX11_longestOf_39 (v := (1 : Int32)) (by decide) ?_
              cases h
              exact g_sub [0, 1, 2, 4] rfl K_17
            · have h := iff_ hc_20 h
              refine g_iload_n X dX11_longestOf_33 rfl 3 rfl ?_
              refine g_iconst X dX11_longestOf_34 (v := (1 : Int32)) (by decide) ?_
              refine g_iadd X dX11_longestOf_35 ?_
              refine g_goto X (tgt := 40) dX11_longestOf_36 (by decide) ?_
              cases h
              exact g_sub [0, 1, 2, 4] rfl K_17
    obtain ⟨o_11, hl_24, h⟩ := bnd_some h
    refine g_sub [3, 4, 2, 1, 0] rfl (L_10 a1 σ rfl FU (0 : Int32) (0 : Int32) (0 : Int32) o_11 hl_24 ?_)
    refine g_iload_n X dX11_longestOf_53 rfl 0 rfl ?_
    cases h
    exact g_iret (Wf := mW cy A X9) X ⟨rfl, rfl⟩ dX11_longestOf_54
  exact K0
set_option maxHeartbeats 8000000 in
set_option maxRecDepth 100000 in
theorem m_X11_placeFor {σ : St} {a1 : Int32} {a2 : Int32} {r : Int32} {σ' : St} (h : f_X11_placeFor a1 a2 σ = some (r, σ')) : mI (ZC aK aO aS aV aT) D (cyT cy) l yX11_placeFor wsX11_placeFor ({ frames := 3, cells := 0, slots := 0, locals := 67 } : Room) (mW cy A X9) [.ref (A 0), .int a1, .int a2] σ r σ' := by
  unfold f_X11_placeFor at h
  refine mI_of (cc := cX11_placeFor) (maxL := 4) (ret := (some .int)) (by decide) rfl (Nat.le_of_ble_eq_true rfl) (fun p e s m args below meth c B X => ?_)
  have hin11 : ∀ w ∈ wsX110, w ∈ wsX11_placeFor := by decide +kernel
  have lk0 : Cond.fieldLink RX11 22 "CardcabinetModel" "many" "[I" ∈ wsX11_placeFor := by decide +kernel
  have K0 : gG p l e ({ frames := 3, cells := 0, slots := 0, locals := 67 } : Room) s m args below meth c D (cyT cy) B 4 (eI D (cyT cy) (mW cy A X9) B below args s r σ') (mW cy A X9 σ) 0 0 0 [(0, .ref (A 0)), (1, .int a1), (2, .int a2)] [] := by
    refine g_iload_n X dX11_placeFor_0 rfl 1 rfl ?_
    obtain ⟨r_2, hf_1, h⟩ := bnd_some h
    refine g_callSI (AD := A) (As := [.int a1]) X (ZC_ok _ _ _ _ _) (m_X11_isRow hf_1) (va_cwS 1 X.1.2.2.2.2 gX11_placeFor_X11_isRow rfl rfl rfl (by decide +kernel) ⟨Nat.le_of_ble_eq_true rfl, Nat.le_of_ble_eq_true rfl⟩) rfl rfl (Nat.le_of_ble_eq_true rfl) ⟨by decide, by decide⟩ dX11_placeFor_1 ?_
    refine g_if_ne X (tgt := 13) dX11_placeFor_4 (by decide) (fun hc_3 => ?_) (fun hc_3 => ?_)
    · have h := iff_ hc_3 h
      refine g_aload_n X dX11_placeFor_13 rfl 0 rfl ?_
      refine g_iload_n X dX11_placeFor_14 rfl 1 rfl ?_
      obtain ⟨r_5, hf_4, h⟩ := bnd_some h
      refine g_callVI (AD := A) (As := [.int a1]) X (ZC_ok _ _ _ _ _) (m_X11_runsOf hf_4) (cwV 1 X.1.2.2.2.2 gX11_placeFor_X11_runsOf rfl rfl rfl (by decide +kernel) ⟨Nat.le_of_ble_eq_true rfl, Nat.le_of_ble_eq_true rfl⟩) rfl mm0 (mE_0 cy A σ) rfl rfl (Nat.le_of_ble_eq_true rfl) ⟨by decide, by decide⟩ dX11_placeFor_15 ?_
      refine g_iconst X dX11_placeFor_18 (v := (1 : Int32)) (by decide) ?_
      refine g_icmp_le X (tgt := 28) dX11_placeFor_19 (by decide) (fun hc_6 => ?_) (fun hc_6 => ?_)
      · have h := ift hc_6 h
        refine g_iconst X dX11_placeFor_28 (v := (0 : Int32)) (by decide) ?_
        refine g_istore_n X dX11_placeFor_29 rfl (by decide) (lv' := [(3, .int (0 : Int32)), (0, .ref (A 0)), (1, .int a1), (2, .int a2)]) rfl ?_
        have L_15 : ∀ (c_7 : Int32) (c_8 : Int32) (σ_10 : St) (n_11 : Nat) (v_9 : Int32) (o_16 : Int32), f_X11_placeFor_L30 c_7 c_8 σ_10 n_11 v_9 = some (o_16) → gG p l e ({ frames := 3, cells := 0, slots := 0, locals := 67 } : Room) s m args below meth c D (cyT cy) B 4 (eI D (cyT cy) (mW cy A X9) B below args s r σ') (mW cy A X9 σ_10) 0 0 56 [(0, .ref (A 0)), (3, .int o_16)] [] → gG p l e ({ frames := 3, cells := 0, slots := 0, locals := 67 } : Room) s m args below meth c D (cyT cy) B 4 (eI D (cyT cy) (mW cy A X9) B below args s r σ') (mW cy A X9 σ_10) 0 0 30 [(0, .ref (A 0)), (1, .int c_7), (2, .int c_8), (3, .int v_9)] [] := by
          intro c_7 c_8 σ_10 n_11
          induction n_11 with
          | zero =>
            intro v_9 o_16 h K_13
            rw [f_X11_placeFor_L30] at h
            cases h
          | succ n_11 ih_12 =>
            intro v_9 o_16 h K_13
            rw [f_X11_placeFor_L30] at h
            refine g_iload_n X dX11_placeFor_30 rfl 3 rfl ?_
            refine g_aload_n X dX11_placeFor_31 rfl 0 rfl ?_
            refine g_get X (AD := A) mm0 (mE_0 cy A σ_10) hin11 rfl 5 (by decide) lk0 (fun _ h9 => h9) rfl dX11_placeFor_32 ?_
            refine g_iload_n X dX11_placeFor_35 rfl 1 rfl ?_
            obtain ⟨hg_17, h⟩ := grd_some h
            refine g_iald X (AD := A) mm6 (mE_6 cy A σ_10) 0 rfl hg_17 dX11_placeFor_36 ?_
            refine g_icmp_ge X (tgt := 56) dX11_placeFor_37 (by decide) (fun hc_18 => ?_) (fun hc_18 => ?_)
            · have h := ift hc_18 h
              cases h
              exact g_sub [0, 3] rfl K_13
            · have h := iff_ hc_18 h
              refine g_aload_n X dX11_placeFor_40 rfl 0 rfl ?_
              refine g_iload_n X dX11_placeFor_41 rfl 1 rfl ?_
              refine g_iload_n X dX11_placeFor_42 rfl 3 rfl ?_
              obtain ⟨r_20, hf_19, h⟩ := bnd_some h
              refine g_callVI (AD := A) (As := [.int c_7, .int v_9]) X (ZC_ok _ _ _ _ _) (m_X11_firstAt hf_19) (cwV 2 X.1.2.2.2.2 gX11_placeFor_X11_firstAt rfl rfl rfl (by decide +kernel) ⟨Nat.le_of_ble_eq_true rfl, Nat.le_of_ble_eq_true rfl⟩) rfl mm0 (mE_0 cy A σ_10) rfl rfl (Nat.le_of_ble_eq_true rfl) ⟨by decide, by decide⟩ dX11_placeFor_43 ?_
              refine g_iload_n X dX11_placeFor_46 rfl 2 rfl ?_
              refine g_icmp_gt X (tgt := 56) dX11_placeFor_47 (by decide) (fun hc_21 => ?_) (fun hc_21 => ?_)
              · have h := ift hc_21 h
                cases h
                exact g_sub [0, 3] rfl K_13
              · have h := iff_ hc_21 h
                refine g_iinc X dX11_placeFor_50 3 rfl (v := v_9 + (1 : Int32)) rfl (by decide) (lv' := [(3, .int (v_9 + (1 : Int32))), (0, .ref (A 0)), (1, .int c_7), (2, .int c_8)]) rfl ?_
                refine g_goto X (tgt := 30) dX11_placeFor_53 (by decide) ?_
                exact g_sub [1, 2, 3, 0] rfl (ih_12 _ _ h K_13)
        obtain ⟨o_16, hl_22, h⟩ := bnd_some h
        refine g_sub [1, 2, 3, 0] rfl (L_15 a1 a2 σ FU (0 : Int32) o_16 hl_22 ?_)
        refine g_aload_n X dX11_placeFor_56 rfl 0 rfl ?_
        refine g_iload_n X dX11_placeFor_57 rfl 1 rfl ?_
        obtain ⟨r_24, σ_25, hf_23, h⟩ := bnd2_some h
        refine g_callVI (AD := A) (As := [.int o_16]) X (ZC_ok _ _ _ _ _) (m_X11_told hf_23) (cwV 1 X.1.2.2.2.2 gX11_placeFor_X11_told rfl rfl rfl (by decide +kernel) ⟨Nat.le_of_ble_eq_true rfl, Nat.le_of_ble_eq_true rfl⟩) rfl mm0 (mE_0 cy A σ) rfl rfl (Nat.le_of_ble_eq_true rfl) ⟨by decide, by decide⟩ dX11_placeFor_58 ?_
        cases h
        exact g_iret (Wf := mW cy A X9) X ⟨rfl, rfl⟩ dX11_placeFor_61
      · have h := iff_ hc_6 h
        refine g_aload_n X dX11_placeFor_22 rfl 0 rfl ?_
        refine g_iconst X dX11_placeFor_23 (v := (2 : Int32)) (by decide) ?_
        obtain ⟨r_27, σ_28, hf_26, h⟩ := bnd2_some h
        refine g_callVI (AD := A) (As := [.int (2 : Int32)]) X (ZC_ok _ _ _ _ _) (m_X11_refuse hf_26) (cwV 1 X.1.2.2.2.2 gX11_placeFor_X11_refuse rfl rfl rfl (by decide +kernel) ⟨Nat.le_of_ble_eq_true rfl, Nat.le_of_ble_eq_true rfl⟩) rfl mm0 (mE_0 cy A σ) rfl rfl (Nat.le_of_ble_eq_true rfl) ⟨by decide, by decide⟩ dX11_placeFor_24 ?_
        cases h
        exact g_iret (Wf := mW cy A X9) X ⟨rfl, rfl⟩ dX11_placeFor_27
    · have h := ift hc_3 h
      refine g_aload_n X dX11_placeFor_7 rfl 0 rfl ?_
      refine g_iconst X dX11_placeFor_8 (v := (1 : Int32)) (by decide) ?_
      obtain ⟨r_30, σ_31, hf_29, h⟩ := bnd2_some h
      refine g_callVI (AD := A) (As := [.int (1 : Int32)]) X (ZC_ok _ _ _ _ _) (m_X11_refuse hf_29) (cwV 1 X.1.2.2.2.2 gX11_placeFor_X11_refuse rfl rfl rfl (by decide +kernel) ⟨Nat.le_of_ble_eq_true rfl, Nat.le_of_ble_eq_true rfl⟩) rfl mm0 (mE_0 cy A σ) rfl rfl (Nat.le_of_ble_eq_true rfl) ⟨by decide, by decide⟩ dX11_placeFor_9 ?_
      cases h
      exact g_iret (Wf := mW cy A X9) X ⟨rfl, rfl⟩ dX11_placeFor_12
  exact K0
set_option maxHeartbeats 8000000 in
set_option maxRecDepth 100000 in
theorem m_X11_isSorted {σ : St} {a1 : Int32} {r : Int32} {σ' : St} (h : f_X11_isSorted a1 σ = some (r, σ')) : mI (ZC aK aO aS aV aT) D (cyT cy) l yX11_isSorted wsX11_isSorted ({ frames := 3, cells := 0, slots := 0, locals := 67 } : Room) (mW cy A X9) [.ref (A 0), .int a1] σ r σ' := by
  unfold f_X11_isSorted at h
  refine mI_of (cc := cX11_isSorted) (maxL := 2) (ret := (some .boolean)) (by decide) rfl (Nat.le_of_ble_eq_true rfl) (fun p e s m args below meth c B X => ?_)
  have hin11 : ∀ w ∈ wsX110, w ∈ wsX11_isSorted := by decide +kernel
  have lk0 : Cond.fieldLink RX11 66 "CardcabinetModel" "thrown" "I" ∈ wsX11_isSorted := by decide +kernel
  have K0 : gG p l e ({ frames := 3, cells := 0, slots := 0, locals := 67 } : Room) s m args below meth c D (cyT cy) B 2 (eI D (cyT cy) (mW cy A X9) B below args s r σ') (mW cy A X9 σ) 0 0 0 [(0, .ref (A 0)), (1, .int a1)] [] := by
    refine g_aload_n X dX11_isSorted_0 rfl 0 rfl ?_
    refine g_iload_n X dX11_isSorted_1 rfl 1 rfl ?_
    obtain ⟨r_2, hf_1, h⟩ := bnd_some h
    refine g_callSI (AD := A) (As := [.int a1]) X (ZC_ok _ _ _ _ _) (m_X11_isRow hf_1) (va_cwS 1 X.1.2.2.2.2 gX11_isSorted_X11_isRow rfl rfl rfl (by decide +kernel) ⟨Nat.le_of_ble_eq_true rfl, Nat.le_of_ble_eq_true rfl⟩) rfl rfl (Nat.le_of_ble_eq_true rfl) ⟨by decide, by decide⟩ dX11_isSorted_2 ?_
    obtain ⟨v_4, hj_14, h⟩ := bnd_some h
    have K_5 : gG p l e ({ frames := 3, cells := 0, slots := 0, locals := 67 } : Room) s m args below meth c D (cyT cy) B 2 (eI D (cyT cy) (mW cy A X9) B below args s r σ') (mW cy A X9 σ) 0 0 13 [(0, .ref (A 0)), (1, .int a1)] [.int v_4, .ref (A 0)] := by
      refine g_put X (AD := A) (ty := .int) (v := .int v_4) (σ' := si σ 10 v_4) mm0 (mE_0 cy A σ) hin11 rfl tyX11 tyX11_ok nmX11 10 (by decide) lk0 (fun _ h9 => h9) rfl (by decide +kernel) rfl rfl (Nat.le_of_ble_eq_true rfl) (sm_10 cy A σ v_4) dX11_isSorted_13 ?_
      refine g_aload_n X dX11_isSorted_16 rfl 0 rfl ?_
      refine g_get X (AD := A) mm0 (mE_0 cy A (si σ 10 v_4)) hin11 rfl 10 (by decide) lk0 (fun _ h9 => h9) rfl dX11_isSorted_17 ?_
      obtain ⟨v_7, hj_13, h⟩ := bnd_some h
      have K_8 : gG p l e ({ frames := 3, cells := 0, slots := 0, locals := 67 } : Room) s m args below meth c D (cyT cy) B 2 (eI D (cyT cy) (mW cy A X9) B below args s r σ') (mW cy A X9 (si σ 10 v_4)) 0 0 37 [] [.int v_7] := by
        obtain ⟨hg_12, h⟩ := grd_some h
        cases h
        exact g_zret (Wf := mW cy A X9) X (nar01 hg_12) ⟨rfl, rfl⟩ dX11_isSorted_37
      have h := hj_13
      clear hj_13
      refine g_if_ne X (tgt := 36) dX11_isSorted_20 (by decide) (fun hc_6 => ?_) (fun hc_6 => ?_)
      · have h := iff_ hc_6 h
        refine g_iconst X dX11_isSorted_36 (v := (0 : Int32)) (by decide) ?_
        cases h
        exact g_sub [] rfl K_8
      · have h := ift hc_6 h
        refine g_aload_n X dX11_isSorted_23 rfl 0 rfl ?_
        refine g_iload_n X dX11_isSorted_24 rfl 1 rfl ?_
        obtain ⟨r_10, hf_9, h⟩ := bnd_some h
        refine g_callVI (AD := A) (As := [.int a1]) X (ZC_ok _ _ _ _ _) (m_X11_runsOf hf_9) (cwV 1 X.1.2.2.2.2 gX11_isSorted_X11_runsOf rfl rfl rfl (by decide +kernel) ⟨Nat.le_of_ble_eq_true rfl, Nat.le_of_ble_eq_true rfl⟩) rfl mm0 (mE_0 cy A (si σ 10 v_4)) rfl rfl (Nat.le_of_ble_eq_true rfl) ⟨by decide, by decide⟩ dX11_isSorted_25 ?_
        refine g_iconst X dX11_isSorted_28 (v := (1 : Int32)) (by decide) ?_
        refine g_icmp_gt X (tgt := 36) dX11_isSorted_29 (by decide) (fun hc_11 => ?_) (fun hc_11 => ?_)
        · have h := ift hc_11 h
          refine g_iconst X dX11_isSorted_36 (v := (0 : Int32)) (by decide) ?_
          cases h
          exact g_sub [] rfl K_8
        · have h := iff_ hc_11 h
          refine g_iconst X dX11_isSorted_32 (v := (1 : Int32)) (by decide) ?_
          refine g_goto X (tgt := 37) dX11_isSorted_33 (by decide) ?_
          cases h
          exact g_sub [] rfl K_8
    have h := hj_14
    clear hj_14
    refine g_if_eq X (tgt := 12) dX11_isSorted_5 (by decide) (fun hc_3 => ?_) (fun hc_3 => ?_)
    · have h := ift hc_3 h
      refine g_iconst X dX11_isSorted_12 (v := (1 : Int32)) (by decide) ?_
      cases h
      exact g_sub [0, 1] rfl K_5
    · have h := iff_ hc_3 h
      refine g_iconst X dX11_isSorted_8 (v := (0 : Int32)) (by decide) ?_
      refine g_goto X (tgt := 13) dX11_isSorted_9 (by decide) ?_
      cases h
      exact g_sub [0, 1] rfl K_5
  exact K0
end MV
