section MV
variable {D : va_G} {cy : Nat → ClassId} {A aK aO aS aV aT : Nat → Nat} {l : Launch} {X9 : va_W}
set_option maxHeartbeats 8000000 in
set_option maxRecDepth 100000 in
theorem m_X11_thrown {σ : St} {r : Int32} (h : f_X11_thrown σ = some r) : mI (ZC aK aO aS aV aT) D (cyT cy) l yX11_thrown wsX11_thrown ({ frames := 0, cells := 0, slots := 0, locals := 0 } : Room) (mW cy A X9) [.ref (A 0)] σ r σ := by
  unfold f_X11_thrown at h
  refine mI_of (cc := cX11_thrown) (maxL := 1) (ret := (some .int)) (by decide) rfl (Nat.le_of_ble_eq_true rfl) (fun p e s m args below meth c B X => ?_)
  have hin11 : ∀ w ∈ wsX110, w ∈ wsX11_thrown := by decide +kernel
  have lk0 : Cond.fieldLink RX11 66 "CardcabinetModel" "thrown" "I" ∈ wsX11_thrown := by decide +kernel
  have K0 : gG p l e ({ frames := 0, cells := 0, slots := 0, locals := 0 } : Room) s m args below meth c D (cyT cy) B 1 (eI D (cyT cy) (mW cy A X9) B below args s r σ) (mW cy A X9 σ) 0 0 0 [(0, .ref (A 0))] [] := by
    refine g_aload_n X dX11_thrown_0 rfl 0 rfl ?_
    refine g_get X (AD := A) mm0 (mE_0 cy A σ) hin11 rfl 10 (by decide) lk0 (fun _ h9 => h9) rfl dX11_thrown_1 ?_
    cases h
    exact g_iret (Wf := mW cy A X9) X ⟨rfl, rfl⟩ dX11_thrown_4
  exact K0
set_option maxHeartbeats 8000000 in
set_option maxRecDepth 100000 in
theorem m_X11_in {σ : St} {a1 : Int32} {a2 : Int32} {a3 : Int32} {r : Int32} (h : f_X11_in a1 a2 a3 = some r) : mI (ZC aK aO aS aV aT) D (cyT cy) l yX11_in wsX11_in ({ frames := 0, cells := 0, slots := 0, locals := 0 } : Room) (mW cy A X9) [.int a1, .int a2, .int a3] σ r σ := by
  unfold f_X11_in at h
  refine mI_of (cc := cX11_in) (maxL := 3) (ret := (some .boolean)) (by decide) rfl (Nat.le_of_ble_eq_true rfl) (fun p e s m args below meth c B X => ?_)
  have K0 : gG p l e ({ frames := 0, cells := 0, slots := 0, locals := 0 } : Room) s m args below meth c D (cyT cy) B 3 (eI D (cyT cy) (mW cy A X9) B below args s r σ) (mW cy A X9 σ) 0 0 0 [(0, .int a1), (1, .int a2), (2, .int a3)] [] := by
    refine g_iload_n X dX11_in_0 rfl 0 rfl ?_
    refine g_iload_n X dX11_in_1 rfl 1 rfl ?_
    obtain ⟨v_2, hj_6, h⟩ := bnd_some h
    have K_3 : gG p l e ({ frames := 0, cells := 0, slots := 0, locals := 0 } : Room) s m args below meth c D (cyT cy) B 3 (eI D (cyT cy) (mW cy A X9) B below args s r σ) (mW cy A X9 σ) 0 0 15 [] [.int v_2] := by
      obtain ⟨hg_5, h⟩ := grd_some h
      cases h
      exact g_zret (Wf := mW cy A X9) X (nar01 hg_5) ⟨rfl, rfl⟩ dX11_in_15
    have h := hj_6
    clear hj_6
    refine g_icmp_lt X (tgt := 14) dX11_in_2 (by decide) (fun hc_1 => ?_) (fun hc_1 => ?_)
    · have h := ift hc_1 h
      refine g_iconst X dX11_in_14 (v := (0 : Int32)) (by decide) ?_
      cases h
      exact g_sub [] rfl K_3
    · have h := iff_ hc_1 h
      refine g_iload_n X dX11_in_5 rfl 0 rfl ?_
      refine g_iload_n X dX11_in_6 rfl 2 rfl ?_
      refine g_icmp_gt X (tgt := 14) dX11_in_7 (by decide) (fun hc_4 => ?_) (fun hc_4 => ?_)
      · have h := ift hc_4 h
        refine g_iconst X dX11_in_14 (v := (0 : Int32)) (by decide) ?_
        cases h
        exact g_sub [] rfl K_3
      · have h := iff_ hc_4 h
        refine g_iconst X dX11_in_10 (v := (1 : Int32)) (by decide) ?_
        refine g_goto X (tgt := 15) dX11_in_11 (by decide) ?_
        cases h
        exact g_sub [] rfl K_3
  exact K0
set_option maxHeartbeats 8000000 in
set_option maxRecDepth 100000 in
theorem m_X11_isRow {σ : St} {a1 : Int32} {r : Int32} (h : f_X11_isRow a1 = some r) : mI (ZC aK aO aS aV aT) D (cyT cy) l yX11_isRow wsX11_isRow ({ frames := 1, cells := 0, slots := 0, locals := 22 } : Room) (mW cy A X9) [.int a1] σ r σ := by
  unfold f_X11_isRow at h
  refine mI_of (cc := cX11_isRow) (maxL := 1) (ret := (some .boolean)) (by decide) rfl (Nat.le_of_ble_eq_true rfl) (fun p e s m args below meth c B X => ?_)
  have K0 : gG p l e ({ frames := 1, cells := 0, slots := 0, locals := 22 } : Room) s m args below meth c D (cyT cy) B 1 (eI D (cyT cy) (mW cy A X9) B below args s r σ) (mW cy A X9 σ) 0 0 0 [(0, .int a1)] [] := by
    refine g_iload_n X dX11_isRow_0 rfl 0 rfl ?_
    refine g_iconst X dX11_isRow_1 (v := (0 : Int32)) (by decide) ?_
    refine g_iconst X dX11_isRow_2 (v := (3 : Int32)) (by decide) ?_
    obtain ⟨r_2, hf_1, h⟩ := bnd_some h
    refine g_callSI (AD := A) (As := [.int a1, .int (0 : Int32), .int (3 : Int32)]) X (ZC_ok _ _ _ _ _) (m_X11_in hf_1) (va_cwS 3 X.1.2.2.2.2 gX11_isRow_X11_in rfl rfl rfl (by decide +kernel) ⟨Nat.le_of_ble_eq_true rfl, Nat.le_of_ble_eq_true rfl⟩) rfl rfl (Nat.le_of_ble_eq_true rfl) ⟨by decide, by decide⟩ dX11_isRow_3 ?_
    obtain ⟨hg_3, h⟩ := grd_some h
    cases h
    exact g_zret (Wf := mW cy A X9) X (nar01 hg_3) ⟨rfl, rfl⟩ dX11_isRow_6
  exact K0
set_option maxHeartbeats 8000000 in
set_option maxRecDepth 100000 in
theorem m_X11_less {σ : St} {a1 : Int32} {a2 : Int32} {r : Int32} (h : f_X11_less a1 a2 = some r) : mI (ZC aK aO aS aV aT) D (cyT cy) l yX11_less wsX11_less ({ frames := 0, cells := 0, slots := 0, locals := 0 } : Room) (mW cy A X9) [.int a1, .int a2] σ r σ := by
  unfold f_X11_less at h
  refine mI_of (cc := cX11_less) (maxL := 2) (ret := (some .int)) (by decide) rfl (Nat.le_of_ble_eq_true rfl) (fun p e s m args below meth c B X => ?_)
  have K0 : gG p l e ({ frames := 0, cells := 0, slots := 0, locals := 0 } : Room) s m args below meth c D (cyT cy) B 2 (eI D (cyT cy) (mW cy A X9) B below args s r σ) (mW cy A X9 σ) 0 0 0 [(0, .int a1), (1, .int a2)] [] := by
    refine g_iload_n X dX11_less_0 rfl 0 rfl ?_
    refine g_iload_n X dX11_less_1 rfl 1 rfl ?_
    obtain ⟨v_2, hj_4, h⟩ := bnd_some h
    have K_3 : gG p l e ({ frames := 0, cells := 0, slots := 0, locals := 0 } : Room) s m args below meth c D (cyT cy) B 2 (eI D (cyT cy) (mW cy A X9) B below args s r σ) (mW cy A X9 σ) 0 0 10 [] [.int v_2] := by
      cases h
      exact g_iret (Wf := mW cy A X9) X ⟨rfl, rfl⟩ dX11_less_10
    have h := hj_4
    clear hj_4
    refine g_icmp_ge X (tgt := 9) dX11_less_2 (by decide) (fun hc_1 => ?_) (fun hc_1 => ?_)
    · have h := ift hc_1 h
      refine g_iload_n X dX11_less_9 rfl 1 rfl ?_
      cases h
      exact g_sub [] rfl K_3
    · have h := iff_ hc_1 h
      refine g_iload_n X dX11_less_5 rfl 0 rfl ?_
      refine g_goto X (tgt := 10) dX11_less_6 (by decide) ?_
      cases h
      exact g_sub [] rfl K_3
  exact K0
set_option maxHeartbeats 8000000 in
set_option maxRecDepth 100000 in
theorem m_X11_more {σ : St} {a1 : Int32} {a2 : Int32} {r : Int32} (h : f_X11_more a1 a2 = some r) : mI (ZC aK aO aS aV aT) D (cyT cy) l yX11_more wsX11_more ({ frames := 0, cells := 0, slots := 0, locals := 0 } : Room) (mW cy A X9) [.int a1, .int a2] σ r σ := by
  unfold f_X11_more at h
  refine mI_of (cc := cX11_more) (maxL := 2) (ret := (some .int)) (by decide) rfl (Nat.le_of_ble_eq_true rfl) (fun p e s m args below meth c B X => ?_)
  have K0 : gG p l e ({ frames := 0, cells := 0, slots := 0, locals := 0 } : Room) s m args below meth c D (cyT cy) B 2 (eI D (cyT cy) (mW cy A X9) B below args s r σ) (mW cy A X9 σ) 0 0 0 [(0, .int a1), (1, .int a2)] [] := by
    refine g_iload_n X dX11_more_0 rfl 0 rfl ?_
    refine g_iload_n X dX11_more_1 rfl 1 rfl ?_
    obtain ⟨v_2, hj_4, h⟩ := bnd_some h
    have K_3 : gG p l e ({ frames := 0, cells := 0, slots := 0, locals := 0 } : Room) s m args below meth c D (cyT cy) B 2 (eI D (cyT cy) (mW cy A X9) B below args s r σ) (mW cy A X9 σ) 0 0 10 [] [.int v_2] := by
      cases h
      exact g_iret (Wf := mW cy A X9) X ⟨rfl, rfl⟩ dX11_more_10
    have h := hj_4
    clear hj_4
    refine g_icmp_ge X (tgt := 9) dX11_more_2 (by decide) (fun hc_1 => ?_) (fun hc_1 => ?_)
    · have h := ift hc_1 h
      refine g_iload_n X dX11_more_9 rfl 0 rfl ?_
      cases h
      exact g_sub [] rfl K_3
    · have h := iff_ hc_1 h
      refine g_iload_n X dX11_more_5 rfl 1 rfl ?_
      refine g_goto X (tgt := 10) dX11_more_6 (by decide) ?_
      cases h
      exact g_sub [] rfl K_3
  exact K0
set_option maxHeartbeats 8000000 in
set_option maxRecDepth 100000 in
theorem m_X11_refuse {σ : St} {a1 : Int32} {r : Int32} {σ' : St} (h : f_X11_refuse a1 σ = some (r, σ')) : mI (ZC aK aO aS aV aT) D (cyT cy) l yX11_refuse wsX11_refuse ({ frames := 0, cells := 0, slots := 0, locals := 0 } : Room) (mW cy A X9) [.ref (A 0), .int a1] σ r σ' := by
  unfold f_X11_refuse at h
  refine mI_of (cc := cX11_refuse) (maxL := 2) (ret := (some .int)) (by decide) rfl (Nat.le_of_ble_eq_true rfl) (fun p e s m args below meth c B X => ?_)
  have hin11 : ∀ w ∈ wsX110, w ∈ wsX11_refuse := by decide +kernel
  have lk0 : Cond.fieldLink RX11 66 "CardcabinetModel" "thrown" "I" ∈ wsX11_refuse := by decide +kernel
  have K0 : gG p l e ({ frames := 0, cells := 0, slots := 0, locals := 0 } : Room) s m args below meth c D (cyT cy) B 2 (eI D (cyT cy) (mW cy A X9) B below args s r σ') (mW cy A X9 σ) 0 0 0 [(0, .ref (A 0)), (1, .int a1)] [] := by
    refine g_aload_n X dX11_refuse_0 rfl 0 rfl ?_
    refine g_iload_n X dX11_refuse_1 rfl 1 rfl ?_
    refine g_put X (AD := A) (ty := .int) (v := .int a1) (σ' := si σ 10 a1) mm0 (mE_0 cy A σ) hin11 rfl tyX11 tyX11_ok nmX11 10 (by decide) lk0 (fun _ h9 => h9) rfl (by decide +kernel) rfl rfl (Nat.le_of_ble_eq_true rfl) (sm_10 cy A σ a1) dX11_refuse_2 ?_
    refine g_iconst X dX11_refuse_5 (v := (0 : Int32)) (by decide) ?_
    cases h
    exact g_iret (Wf := mW cy A X9) X ⟨rfl, rfl⟩ dX11_refuse_6
  exact K0
set_option maxHeartbeats 8000000 in
set_option maxRecDepth 100000 in
theorem m_X11_told {σ : St} {a1 : Int32} {r : Int32} {σ' : St} (h : f_X11_told a1 σ = some (r, σ')) : mI (ZC aK aO aS aV aT) D (cyT cy) l yX11_told wsX11_told ({ frames := 0, cells := 0, slots := 0, locals := 0 } : Room) (mW cy A X9) [.ref (A 0), .int a1] σ r σ' := by
  unfold f_X11_told at h
  refine mI_of (cc := cX11_told) (maxL := 2) (ret := (some .int)) (by decide) rfl (Nat.le_of_ble_eq_true rfl) (fun p e s m args below meth c B X => ?_)
  have hin11 : ∀ w ∈ wsX110, w ∈ wsX11_told := by decide +kernel
  have lk0 : Cond.fieldLink RX11 66 "CardcabinetModel" "thrown" "I" ∈ wsX11_told := by decide +kernel
  have K0 : gG p l e ({ frames := 0, cells := 0, slots := 0, locals := 0 } : Room) s m args below meth c D (cyT cy) B 2 (eI D (cyT cy) (mW cy A X9) B below args s r σ') (mW cy A X9 σ) 0 0 0 [(0, .ref (A 0)), (1, .int a1)] [] := by
    refine g_aload_n X dX11_told_0 rfl 0 rfl ?_
    refine g_iconst X dX11_told_1 (v := (0 : Int32)) (by decide) ?_
    refine g_put X (AD := A) (ty := .int) (v := .int (0 : Int32)) (σ' := si σ 10 (0 : Int32)) mm0 (mE_0 cy A σ) hin11 rfl tyX11 tyX11_ok nmX11 10 (by decide) lk0 (fun _ h9 => h9) rfl (by decide +kernel) rfl rfl (Nat.le_of_ble_eq_true rfl) (sm_10 cy A σ (0 : Int32)) dX11_told_2 ?_
    refine g_iload_n X dX11_told_5 rfl 1 rfl ?_
    cases h
    exact g_iret (Wf := mW cy A X9) X ⟨rfl, rfl⟩ dX11_told_6
  exact K0
set_option maxHeartbeats 8000000 in
set_option maxRecDepth 100000 in
theorem m_X11_type {σ : St} {a1 : Int64} {r : Int32} {σ' : St} (h : f_X11_type a1 σ = some (r, σ')) : mI (ZC aK aO aS aV aT) D (cyT cy) l yX11_type wsX11_type ({ frames := 1, cells := 0, slots := 0, locals := 21 } : Room) (mW cy A X9) [.ref (A 0), .long a1] σ r σ' := by
  unfold f_X11_type at h
  refine mI_of (cc := cX11_type) (maxL := 6) (ret := (some .int)) (by decide) rfl (Nat.le_of_ble_eq_true rfl) (fun p e s m args below meth c B X => ?_)
  have hin11 : ∀ w ∈ wsX110, w ∈ wsX11_type := by decide +kernel
  have lk0 : Cond.constantLong RX11 73 (255) ∈ wsX11_type := by decide +kernel
  have lk1 : Cond.fieldLink RX11 75 "CardcabinetModel" "length" "I" ∈ wsX11_type := by decide +kernel
  have lk2 : Cond.fieldLink RX11 28 "CardcabinetModel" "text" "[I" ∈ wsX11_type := by decide +kernel
  have K0 : gG p l e ({ frames := 1, cells := 0, slots := 0, locals := 21 } : Room) s m args below meth c D (cyT cy) B 6 (eI D (cyT cy) (mW cy A X9) B below args s r σ') (mW cy A X9 σ) 0 0 0 [(0, .ref (A 0)), (1, .long a1)] [] := by
    refine g_iconst X dX11_type_0 (v := (0 : Int32)) (by decide) ?_
    refine g_istore_n X dX11_type_1 rfl (by decide) (lv' := [(3, .int (0 : Int32)), (0, .ref (A 0)), (1, .long a1)]) rfl ?_
    refine g_iconst X dX11_type_2 (v := (0 : Int32)) (by decide) ?_
    refine g_istore X dX11_type_3 (by decide) (lv' := [(4, .int (0 : Int32)), (3, .int (0 : Int32)), (0, .ref (A 0)), (1, .long a1)]) rfl ?_
    have L_9 : ∀ (c_1 : Int64) (σ_4 : St) (n_5 : Nat) (v_2 : Int32) (v_3 : Int32) (o_10 : Int32), f_X11_type_L5 c_1 n_5 v_2 v_3 = some (o_10) → gG p l e ({ frames := 1, cells := 0, slots := 0, locals := 21 } : Room) s m args below meth c D (cyT cy) B 6 (eI D (cyT cy) (mW cy A X9) B below args s r σ') (mW cy A X9 σ_4) 0 0 42 [(0, .ref (A 0)), (1, .long c_1), (3, .int o_10)] [] → gG p l e ({ frames := 1, cells := 0, slots := 0, locals := 21 } : Room) s m args below meth c D (cyT cy) B 6 (eI D (cyT cy) (mW cy A X9) B below args s r σ') (mW cy A X9 σ_4) 0 0 5 [(0, .ref (A 0)), (1, .long c_1), (3, .int v_2), (4, .int v_3)] [] := by
      intro c_1 σ_4 n_5
      induction n_5 with
      | zero =>
        intro v_2 v_3 o_10 h K_7
        rw [f_X11_type_L5] at h
        cases h
      | succ n_5 ih_6 =>
        intro v_2 v_3 o_10 h K_7
        rw [f_X11_type_L5] at h
        refine g_iload X dX11_type_5 3 rfl ?_
        refine g_bipush X dX11_type_7 (v := (8 : Int32)) (by decide) ?_
        refine g_icmp_ge X (tgt := 42) dX11_type_9 (by decide) (fun hc_11 => ?_) (fun hc_11 => ?_)
        · have h := ift hc_11 h
          cases h
          exact g_sub [0, 1, 2] rfl K_7
        · have h := iff_ hc_11 h
          refine g_iload_n X dX11_type_12 rfl 2 rfl ?_
          refine g_lload_n X dX11_type_13 rfl 1 rfl ?_
          refine g_bipush X dX11_type_14 (v := (8 : Int32)) (by decide) ?_
          refine g_iload X dX11_type_16 3 rfl ?_
          refine g_imul X dX11_type_18 ?_
          refine g_lushr X dX11_type_19 ?_
          refine g_ldc2 X dX11_type_20 lk0 ?_
          refine g_land X dX11_type_23 ?_
          refine g_lconst X dX11_type_24 (v := (0 : Int64)) (by decide) ?_
          refine g_lcmp X dX11_type_25 ?_
          obtain ⟨v_13, hj_15, h⟩ := bnd_some h
          have K_14 : gG p l e ({ frames := 1, cells := 0, slots := 0, locals := 21 } : Room) s m args below meth c D (cyT cy) B 6 (eI D (cyT cy) (mW cy A X9) B below args s r σ') (mW cy A X9 σ_4) 0 0 34 [(0, .ref (A 0)), (1, .long c_1), (4, .int v_3)] [.int v_13, .int v_2] := by
            refine g_iadd X dX11_type_34 ?_
            refine g_istore_n X dX11_type_35 rfl (by decide) (lv' := [(3, .int (v_2 + v_13)), (0, .ref (A 0)), (1, .long c_1), (4, .int v_3)]) rfl ?_
            refine g_iinc X dX11_type_36 3 rfl (v := v_3 + (1 : Int32)) rfl (by decide) (lv' := [(4, .int (v_3 + (1 : Int32))), (3, .int (v_2 + v_13)), (0, .ref (A 0)), (1, .long c_1)]) rfl ?_
            refine g_goto X (tgt := 5) dX11_type_39 (by decide) ?_
            exact g_sub [2, 3, 1, 0] rfl (ih_6 _ _ _ h K_7)
          have h := hj_15
          clear hj_15
          refine g_if_ne X (tgt := 33) dX11_type_26 (by decide) (fun hc_12 => ?_) (fun hc_12 => ?_)
          · have h := iff_ hc_12 h
            refine g_iconst X dX11_type_33 (v := (1 : Int32)) (by decide) ?_
            cases h
            exact g_sub [0, 1, 3] rfl K_14
          · have h := ift hc_12 h
            refine g_iconst X dX11_type_29 (v := (0 : Int32)) (by decide) ?_
            refine g_goto X (tgt := 34) dX11_type_30 (by decide) ?_
            cases h
            exact g_sub [0, 1, 3] rfl K_14
    obtain ⟨o_10, hl_16, h⟩ := bnd_some h
    refine g_sub [2, 3, 1, 0] rfl (L_9 a1 σ FU (0 : Int32) (0 : Int32) o_10 hl_16 ?_)
    refine g_aload_n X dX11_type_42 rfl 0 rfl ?_
    refine g_get X (AD := A) mm0 (mE_0 cy A σ) hin11 rfl 8 (by decide) lk1 (fun _ h9 => h9) rfl dX11_type_43 ?_
    refine g_iload_n X dX11_type_46 rfl 2 rfl ?_
    refine g_iadd X dX11_type_47 ?_
    refine g_sipush X dX11_type_48 (v := (400 : Int32)) (by decide) ?_
    refine g_icmp_le X (tgt := 60) dX11_type_51 (by decide) (fun hc_17 => ?_) (fun hc_17 => ?_)
    · have h := ift hc_17 h
      refine g_bipush X dX11_type_60 (v := (7 : Int32)) (by decide) ?_
      refine g_istore X dX11_type_62 (by decide) (lv' := [(4, .int (7 : Int32)), (0, .ref (A 0)), (1, .long a1), (3, .int o_10)]) rfl ?_
      have L_25 : ∀ (c_18 : Int64) (n_21 : Nat) (v_19 : Int32) (σ_20 : St) (σ_26 : St), f_X11_type_L64 c_18 n_21 v_19 σ_20 = some (σ_26) → gG p l e ({ frames := 1, cells := 0, slots := 0, locals := 21 } : Room) s m args below meth c D (cyT cy) B 6 (eI D (cyT cy) (mW cy A X9) B below args s r σ') (mW cy A X9 σ_26) 0 0 115 [(0, .ref (A 0))] [] → gG p l e ({ frames := 1, cells := 0, slots := 0, locals := 21 } : Room) s m args below meth c D (cyT cy) B 6 (eI D (cyT cy) (mW cy A X9) B below args s r σ') (mW cy A X9 σ_20) 0 0 64 [(0, .ref (A 0)), (1, .long c_18), (4, .int v_19)] [] := by
        intro c_18 n_21
        induction n_21 with
        | zero =>
          intro v_19 σ_20 σ_26 h K_23
          rw [f_X11_type_L64] at h
          cases h
        | succ n_21 ih_22 =>
          intro v_19 σ_20 σ_26 h K_23
          rw [f_X11_type_L64] at h
          refine g_iload X dX11_type_64 2 rfl ?_
          refine g_if_lt X (tgt := 115) dX11_type_66 (by decide) (fun hc_27 => ?_) (fun hc_27 => ?_)
          · have h := ift hc_27 h
            cases h
            exact g_sub [0] rfl K_23
          · have h := iff_ hc_27 h
            refine g_lload_n X dX11_type_69 rfl 1 rfl ?_
            refine g_bipush X dX11_type_70 (v := (8 : Int32)) (by decide) ?_
            refine g_iload X dX11_type_72 2 rfl ?_
            refine g_imul X dX11_type_74 ?_
            refine g_lushr X dX11_type_75 ?_
            refine g_ldc2 X dX11_type_76 lk0 ?_
            refine g_land X dX11_type_79 ?_
            refine g_l2i X dX11_type_80 ?_
            refine g_istore X dX11_type_81 (by decide) (lv' := [(5, .int ((((c_18.toUInt64 >>> (((8 : Int32) * v_19).toInt64.toUInt64 &&& Int64.toUInt64 63)).toInt64) &&& (255 : Int64)).toInt32)), (0, .ref (A 0)), (1, .long c_18), (4, .int v_19)]) rfl ?_
            refine g_iload X dX11_type_83 0 rfl ?_
            obtain ⟨σ_29, hj_34, h⟩ := bnd_some h
            have K_30 : gG p l e ({ frames := 1, cells := 0, slots := 0, locals := 21 } : Room) s m args below meth c D (cyT cy) B 6 (eI D (cyT cy) (mW cy A X9) B below args s r σ') (mW cy A X9 σ_29) 0 0 109 [(0, .ref (A 0)), (1, .long c_18), (4, .int v_19)] [] := by
              refine g_iinc X dX11_type_109 2 rfl (v := v_19 + (-1 : Int32)) rfl (by decide) (lv' := [(4, .int (v_19 + (-1 : Int32))), (0, .ref (A 0)), (1, .long c_18)]) rfl ?_
              refine g_goto X (tgt := 64) dX11_type_112 (by decide) ?_
              exact g_sub [1, 2, 0] rfl (ih_22 _ _ _ h K_23)
            have h := hj_34
            clear hj_34
            refine g_if_eq X (tgt := 109) dX11_type_85 (by decide) (fun hc_28 => ?_) (fun hc_28 => ?_)
            · have h := ift hc_28 h
              cases h
              exact g_sub [1, 2, 3] rfl K_30
            · have h := iff_ hc_28 h
              refine g_aload_n X dX11_type_88 rfl 1 rfl ?_
              refine g_get X (AD := A) mm0 (mE_0 cy A σ_20) hin11 rfl 7 (by decide) lk2 (fun _ h9 => h9) rfl dX11_type_89 ?_
              refine g_aload_n X dX11_type_92 rfl 1 rfl ?_
              refine g_get X (AD := A) mm0 (mE_0 cy A σ_20) hin11 rfl 8 (by decide) lk1 (fun _ h9 => h9) rfl dX11_type_93 ?_
              refine g_iload X dX11_type_96 0 rfl ?_
              obtain ⟨hg_31, h⟩ := grd_some h
              refine g_iast X (AD := A) (σ' := sr σ_20 8 (upd (gr σ_20 8) (gi σ_20 8).toNatClampNeg ((((c_18.toUInt64 >>> (((8 : Int32) * v_19).toInt64.toUInt64 &&& Int64.toUInt64 63)).toInt64) &&& (255 : Int64)).toInt32))) mm8 (mE_8 cy A σ_20) 0 rfl hg_31 (sm_a8 cy A σ_20 (upd (gr σ_20 8) (gi σ_20 8).toNatClampNeg ((((c_18.toUInt64 >>> (((8 : Int32) * v_19).toInt64.toUInt64 &&& Int64.toUInt64 63)).toInt64) &&& (255 : Int64)).toInt32))) dX11_type_98 ?_
              obtain ⟨σ_32, e_33, h⟩ := bnd_some h
              have e_33 := Option.some.inj e_33
              rw [e_33]
              refine g_aload_n X dX11_type_99 rfl 1 rfl ?_
              refine g_dup X dX11_type_100 rfl ?_
              refine g_get X (AD := A) mm0 (mE_0 cy A σ_32) hin11 rfl 8 (by decide) lk1 (fun _ h9 => h9) rfl dX11_type_101 ?_
              refine g_iconst X dX11_type_104 (v := (1 : Int32)) (by decide) ?_
              refine g_iadd X dX11_type_105 ?_
              refine g_put X (AD := A) (ty := .int) (v := .int ((gi σ_32 8) + (1 : Int32))) (σ' := si σ_32 8 ((gi σ_32 8) + (1 : Int32))) mm0 (mE_0 cy A σ_32) hin11 rfl tyX11 tyX11_ok nmX11 8 (by decide) lk1 (fun _ h9 => h9) rfl (by decide +kernel) rfl rfl (Nat.le_of_ble_eq_true rfl) (sm_8 cy A σ_32 ((gi σ_32 8) + (1 : Int32))) dX11_type_106 ?_
              cases h
              exact g_sub [1, 2, 3] rfl K_30
      obtain ⟨σ_26, hl_35, h⟩ := bnd_some h
      refine g_sub [1, 2, 0] rfl (L_25 a1 FU (7 : Int32) σ σ_26 hl_35 ?_)
      refine g_aload_n X dX11_type_115 rfl 0 rfl ?_
      refine g_aload_n X dX11_type_116 rfl 0 rfl ?_
      refine g_get X (AD := A) mm0 (mE_0 cy A σ_26) hin11 rfl 8 (by decide) lk1 (fun _ h9 => h9) rfl dX11_type_117 ?_
      obtain ⟨r_37, σ_38, hf_36, h⟩ := bnd2_some h
      refine g_callVI (AD := A) (As := [.int (gi σ_26 8)]) X (ZC_ok _ _ _ _ _) (m_X11_told hf_36) (cwV 1 X.1.2.2.2.2 gX11_type_X11_told rfl rfl rfl (by decide +kernel) ⟨Nat.le_of_ble_eq_true rfl, Nat.le_of_ble_eq_true rfl⟩) rfl mm0 (mE_0 cy A σ_26) rfl rfl (Nat.le_of_ble_eq_true rfl) ⟨by decide, by decide⟩ dX11_type_120 ?_
      cases h
      exact g_iret (Wf := mW cy A X9) X ⟨rfl, rfl⟩ dX11_type_123
    · have h := iff_ hc_17 h
      refine g_aload_n X dX11_type_54 rfl 0 rfl ?_
      refine g_iconst X dX11_type_55 (v := (1 : Int32)) (by decide) ?_
      obtain ⟨r_40, σ_41, hf_39, h⟩ := bnd2_some h
      refine g_callVI (AD := A) (As := [.int (1 : Int32)]) X (ZC_ok _ _ _ _ _) (m_X11_refuse hf_39) (cwV 1 X.1.2.2.2.2 gX11_type_X11_refuse rfl rfl rfl (by decide +kernel) ⟨Nat.le_of_ble_eq_true rfl, Nat.le_of_ble_eq_true rfl⟩) rfl mm0 (mE_0 cy A σ) rfl rfl (Nat.le_of_ble_eq_true rfl) ⟨by decide, by decide⟩ dX11_type_56 ?_
      cases h
      exact g_iret (Wf := mW cy A X9) X ⟨rfl, rfl⟩ dX11_type_59
  exact K0
set_option maxHeartbeats 8000000 in
set_option maxRecDepth 100000 in
theorem m_X11_clearText {σ : St} {r : Int32} {σ' : St} (h : f_X11_clearText σ = some (r, σ')) : mI (ZC aK aO aS aV aT) D (cyT cy) l yX11_clearText wsX11_clearText ({ frames := 1, cells := 0, slots := 0, locals := 21 } : Room) (mW cy A X9) [.ref (A 0)] σ r σ' := by
  unfold f_X11_clearText at h
  refine mI_of (cc := cX11_clearText) (maxL := 2) (ret := (some .int)) (by decide) rfl (Nat.le_of_ble_eq_true rfl) (fun p e s m args below meth c B X => ?_)
  have hin11 : ∀ w ∈ wsX110, w ∈ wsX11_clearText := by decide +kernel
  have lk0 : Cond.fieldLink RX11 75 "CardcabinetModel" "length" "I" ∈ wsX11_clearText := by decide +kernel
  have K0 : gG p l e ({ frames := 1, cells := 0, slots := 0, locals := 21 } : Room) s m args below meth c D (cyT cy) B 2 (eI D (cyT cy) (mW cy A X9) B below args s r σ') (mW cy A X9 σ) 0 0 0 [(0, .ref (A 0))] [] := by
    refine g_aload_n X dX11_clearText_0 rfl 0 rfl ?_
    refine g_get X (AD := A) mm0 (mE_0 cy A σ) hin11 rfl 8 (by decide) lk0 (fun _ h9 => h9) rfl dX11_clearText_1 ?_
    refine g_istore_n X dX11_clearText_4 rfl (by decide) (lv' := [(1, .int (gi σ 8)), (0, .ref (A 0))]) rfl ?_
    refine g_aload_n X dX11_clearText_5 rfl 1 rfl ?_
    refine g_iconst X dX11_clearText_6 (v := (0 : Int32)) (by decide) ?_
    refine g_put X (AD := A) (ty := .int) (v := .int (0 : Int32)) (σ' := si σ 8 (0 : Int32)) mm0 (mE_0 cy A σ) hin11 rfl tyX11 tyX11_ok nmX11 8 (by decide) lk0 (fun _ h9 => h9) rfl (by decide +kernel) rfl rfl (Nat.le_of_ble_eq_true rfl) (sm_8 cy A σ (0 : Int32)) dX11_clearText_7 ?_
    refine g_aload_n X dX11_clearText_10 rfl 1 rfl ?_
    refine g_iload_n X dX11_clearText_11 rfl 0 rfl ?_
    obtain ⟨r_2, σ_3, hf_1, h⟩ := bnd2_some h
    refine g_callVI (AD := A) (As := [.int (gi σ 8)]) X (ZC_ok _ _ _ _ _) (m_X11_told hf_1) (cwV 1 X.1.2.2.2.2 gX11_clearText_X11_told rfl rfl rfl (by decide +kernel) ⟨Nat.le_of_ble_eq_true rfl, Nat.le_of_ble_eq_true rfl⟩) rfl mm0 (mE_0 cy A (si σ 8 (0 : Int32))) rfl rfl (Nat.le_of_ble_eq_true rfl) ⟨by decide, by decide⟩ dX11_clearText_12 ?_
    cases h
    exact g_iret (Wf := mW cy A X9) X ⟨rfl, rfl⟩ dX11_clearText_15
  exact K0
set_option maxHeartbeats 8000000 in
set_option maxRecDepth 100000 in
theorem m_X11_isLetter {σ : St} {a1 : Int32} {r : Int32} (h : f_X11_isLetter a1 = some r) : mI (ZC aK aO aS aV aT) D (cyT cy) l yX11_isLetter wsX11_isLetter ({ frames := 1, cells := 0, slots := 0, locals := 22 } : Room) (mW cy A X9) [.int a1] σ r σ := by
  unfold f_X11_isLetter at h
  refine mI_of (cc := cX11_isLetter) (maxL := 1) (ret := (some .boolean)) (by decide) rfl (Nat.le_of_ble_eq_true rfl) (fun p e s m args below meth c B X => ?_)
  have K0 : gG p l e ({ frames := 1, cells := 0, slots := 0, locals := 22 } : Room) s m args below meth c D (cyT cy) B 1 (eI D (cyT cy) (mW cy A X9) B below args s r σ) (mW cy A X9 σ) 0 0 0 [(0, .int a1)] [] := by
    refine g_iload_n X dX11_isLetter_0 rfl 0 rfl ?_
    refine g_bipush X dX11_isLetter_1 (v := (97 : Int32)) (by decide) ?_
    refine g_bipush X dX11_isLetter_3 (v := (122 : Int32)) (by decide) ?_
    obtain ⟨r_2, hf_1, h⟩ := bnd_some h
    refine g_callSI (AD := A) (As := [.int a1, .int (97 : Int32), .int (122 : Int32)]) X (ZC_ok _ _ _ _ _) (m_X11_in hf_1) (va_cwS 3 X.1.2.2.2.2 gX11_isLetter_X11_in rfl rfl rfl (by decide +kernel) ⟨Nat.le_of_ble_eq_true rfl, Nat.le_of_ble_eq_true rfl⟩) rfl rfl (Nat.le_of_ble_eq_true rfl) ⟨by decide, by decide⟩ dX11_isLetter_5 ?_
    obtain ⟨hg_3, h⟩ := grd_some h
    cases h
    exact g_zret (Wf := mW cy A X9) X (nar01 hg_3) ⟨rfl, rfl⟩ dX11_isLetter_8
  exact K0
set_option maxHeartbeats 8000000 in
set_option maxRecDepth 100000 in
theorem m_X11_isDigit {σ : St} {a1 : Int32} {r : Int32} (h : f_X11_isDigit a1 = some r) : mI (ZC aK aO aS aV aT) D (cyT cy) l yX11_isDigit wsX11_isDigit ({ frames := 1, cells := 0, slots := 0, locals := 22 } : Room) (mW cy A X9) [.int a1] σ r σ := by
  unfold f_X11_isDigit at h
  refine mI_of (cc := cX11_isDigit) (maxL := 1) (ret := (some .boolean)) (by decide) rfl (Nat.le_of_ble_eq_true rfl) (fun p e s m args below meth c B X => ?_)
  have K0 : gG p l e ({ frames := 1, cells := 0, slots := 0, locals := 22 } : Room) s m args below meth c D (cyT cy) B 1 (eI D (cyT cy) (mW cy A X9) B below args s r σ) (mW cy A X9 σ) 0 0 0 [(0, .int a1)] [] := by
    refine g_iload_n X dX11_isDigit_0 rfl 0 rfl ?_
    refine g_bipush X dX11_isDigit_1 (v := (48 : Int32)) (by decide) ?_
    refine g_bipush X dX11_isDigit_3 (v := (57 : Int32)) (by decide) ?_
    obtain ⟨r_2, hf_1, h⟩ := bnd_some h
    refine g_callSI (AD := A) (As := [.int a1, .int (48 : Int32), .int (57 : Int32)]) X (ZC_ok _ _ _ _ _) (m_X11_in hf_1) (va_cwS 3 X.1.2.2.2.2 gX11_isDigit_X11_in rfl rfl rfl (by decide +kernel) ⟨Nat.le_of_ble_eq_true rfl, Nat.le_of_ble_eq_true rfl⟩) rfl rfl (Nat.le_of_ble_eq_true rfl) ⟨by decide, by decide⟩ dX11_isDigit_5 ?_
    obtain ⟨hg_3, h⟩ := grd_some h
    cases h
    exact g_zret (Wf := mW cy A X9) X (nar01 hg_3) ⟨rfl, rfl⟩ dX11_isDigit_8
  exact K0
end MV
