section MV
variable {D : va_G} {cy : Nat → ClassId} {A aK aO aS aV aT : Nat → Nat} {l : Launch} {X9 : va_W}
set_option maxHeartbeats 8000000 in
set_option maxRecDepth 100000 in
theorem m_X11_sortsPart {σ : St} {a1 : Int32} {a2 : Int32} {a3 : Int32} {a4 : Int32} {r : Int32} {σ' : St} (h : f_X11_sortsPart a1 a2 a3 a4 σ = some (r, σ')) : mI (ZC aK aO aS aV aT) D (cyT cy) l yX11_sortsPart wsX11_sortsPart ({ frames := 2, cells := 0, slots := 0, locals := 48 } : Room) (mW cy A X9) [.ref (A 0), .int a1, .int a2, .int a3, .int a4] σ r σ' := by
  unfold f_X11_sortsPart at h
  refine mI_of (cc := cX11_sortsPart) (maxL := 7) (ret := (some .int)) (by decide) rfl (Nat.le_of_ble_eq_true rfl) (fun p e s m args below meth c B X => ?_)
  have hin11 : ∀ w ∈ wsX110, w ∈ wsX11_sortsPart := by decide +kernel
  have lk0 : Cond.fieldLink RX11 35 "CardcabinetModel" "work" "[I" ∈ wsX11_sortsPart := by decide +kernel
  have lk1 : Cond.fieldLink RX11 16 "CardcabinetModel" "cards" "[I" ∈ wsX11_sortsPart := by decide +kernel
  have K0 : gG p l e ({ frames := 2, cells := 0, slots := 0, locals := 48 } : Room) s m args below meth c D (cyT cy) B 7 (eI D (cyT cy) (mW cy A X9) B below args s r σ') (mW cy A X9 σ) 0 0 0 [(0, .ref (A 0)), (1, .int a1), (2, .int a2), (3, .int a3), (4, .int a4)] [] := by
    refine g_iload_n X dX11_sortsPart_0 rfl 2 rfl ?_
    refine g_istore X dX11_sortsPart_1 (by decide) (lv' := [(5, .int a2), (0, .ref (A 0)), (1, .int a1), (2, .int a2), (3, .int a3), (4, .int a4)]) rfl ?_
    have L_11 : ∀ (c_1 : Int32) (c_2 : Int32) (c_3 : Int32) (c_4 : Int32) (n_7 : Nat) (v_5 : Int32) (σ_6 : St) (σ_12 : St), f_X11_sortsPart_L3 c_1 c_2 c_3 n_7 v_5 σ_6 = some (σ_12) → gG p l e ({ frames := 2, cells := 0, slots := 0, locals := 48 } : Room) s m args below meth c D (cyT cy) B 7 (eI D (cyT cy) (mW cy A X9) B below args s r σ') (mW cy A X9 σ_12) 0 0 37 [(0, .ref (A 0)), (1, .int c_1), (2, .int c_2), (3, .int c_3), (4, .int c_4)] [] → gG p l e ({ frames := 2, cells := 0, slots := 0, locals := 48 } : Room) s m args below meth c D (cyT cy) B 7 (eI D (cyT cy) (mW cy A X9) B below args s r σ') (mW cy A X9 σ_6) 0 0 3 [(0, .ref (A 0)), (1, .int c_1), (2, .int c_2), (3, .int c_3), (4, .int c_4), (5, .int v_5)] [] := by
      intro c_1 c_2 c_3 c_4 n_7
      induction n_7 with
      | zero =>
        intro v_5 σ_6 σ_12 h K_9
        rw [f_X11_sortsPart_L3] at h
        cases h
      | succ n_7 ih_8 =>
        intro v_5 σ_6 σ_12 h K_9
        rw [f_X11_sortsPart_L3] at h
        refine g_iload X dX11_sortsPart_3 5 rfl ?_
        refine g_iload_n X dX11_sortsPart_5 rfl 3 rfl ?_
        refine g_icmp_ge X (tgt := 37) dX11_sortsPart_6 (by decide) (fun hc_13 => ?_) (fun hc_13 => ?_)
        · have h := ift hc_13 h
          cases h
          exact g_sub [0, 1, 2, 3, 4] rfl K_9
        · have h := iff_ hc_13 h
          refine g_aload_n X dX11_sortsPart_9 rfl 0 rfl ?_
          refine g_get X (AD := A) mm0 (mE_0 cy A σ_6) hin11 rfl 11 (by decide) lk0 (fun _ h9 => h9) rfl dX11_sortsPart_10 ?_
          refine g_iload X dX11_sortsPart_13 5 rfl ?_
          refine g_iload_n X dX11_sortsPart_15 rfl 2 rfl ?_
          refine g_isub X dX11_sortsPart_16 ?_
          refine g_aload_n X dX11_sortsPart_17 rfl 0 rfl ?_
          refine g_get X (AD := A) mm0 (mE_0 cy A σ_6) hin11 rfl 3 (by decide) lk1 (fun _ h9 => h9) rfl dX11_sortsPart_18 ?_
          refine g_sipush X dX11_sortsPart_21 (v := (800 : Int32)) (by decide) ?_
          refine g_iload_n X dX11_sortsPart_24 rfl 1 rfl ?_
          refine g_imul X dX11_sortsPart_25 ?_
          refine g_iload X dX11_sortsPart_26 5 rfl ?_
          refine g_iadd X dX11_sortsPart_28 ?_
          obtain ⟨hg_14, h⟩ := grd_some h
          refine g_iald X (AD := A) mm4 (mE_4 cy A σ_6) 0 rfl hg_14 dX11_sortsPart_29 ?_
          obtain ⟨hg_15, h⟩ := grd_some h
          refine g_iast X (AD := A) (σ' := sr σ_6 12 (upd (gr σ_6 12) (v_5 - c_2).toNatClampNeg (gr σ_6 4 (((800 : Int32) * c_1) + v_5).toNatClampNeg))) mm12 (mE_12 cy A σ_6) 0 rfl hg_15 (sm_a12 cy A σ_6 (upd (gr σ_6 12) (v_5 - c_2).toNatClampNeg (gr σ_6 4 (((800 : Int32) * c_1) + v_5).toNatClampNeg))) dX11_sortsPart_30 ?_
          obtain ⟨σ_16, e_17, h⟩ := bnd_some h
          have e_17 := Option.some.inj e_17
          rw [e_17]
          refine g_iinc X dX11_sortsPart_31 5 rfl (v := v_5 + (1 : Int32)) rfl (by decide) (lv' := [(5, .int (v_5 + (1 : Int32))), (0, .ref (A 0)), (1, .int c_1), (2, .int c_2), (3, .int c_3), (4, .int c_4)]) rfl ?_
          refine g_goto X (tgt := 3) dX11_sortsPart_34 (by decide) ?_
          exact g_sub [1, 2, 3, 4, 5, 0] rfl (ih_8 _ _ _ h K_9)
    obtain ⟨σ_12, hl_18, h⟩ := bnd_some h
    refine g_sub [1, 2, 3, 4, 5, 0] rfl (L_11 a1 a2 a3 a4 FU a2 σ σ_12 hl_18 ?_)
    refine g_aload_n X dX11_sortsPart_37 rfl 0 rfl ?_
    refine g_iload_n X dX11_sortsPart_38 rfl 3 rfl ?_
    refine g_iload_n X dX11_sortsPart_39 rfl 2 rfl ?_
    refine g_isub X dX11_sortsPart_40 ?_
    refine g_iload X dX11_sortsPart_41 4 rfl ?_
    obtain ⟨r_20, σ_21, hf_19, h⟩ := bnd2_some h
    refine g_callVI (AD := A) (As := [.int (a3 - a2), .int a4]) X (ZC_ok _ _ _ _ _) (m_X11_sorts hf_19) (cwV 2 X.1.2.2.2.2 gX11_sortsPart_X11_sorts rfl rfl rfl (by decide +kernel) ⟨Nat.le_of_ble_eq_true rfl, Nat.le_of_ble_eq_true rfl⟩) rfl mm0 (mE_0 cy A σ_12) rfl rfl (Nat.le_of_ble_eq_true rfl) ⟨by decide, by decide⟩ dX11_sortsPart_43 ?_
    refine g_istore X dX11_sortsPart_46 (by decide) (lv' := [(5, .int r_20), (0, .ref (A 0)), (1, .int a1), (2, .int a2), (3, .int a3), (4, .int a4)]) rfl ?_
    refine g_iload_n X dX11_sortsPart_48 rfl 3 rfl ?_
    refine g_istore X dX11_sortsPart_49 (by decide) (lv' := [(6, .int a2), (5, .int r_20), (0, .ref (A 0)), (1, .int a1), (2, .int a2), (3, .int a3), (4, .int a4)]) rfl ?_
    have L_32 : ∀ (c_22 : Int32) (c_23 : Int32) (c_24 : Int32) (c_25 : Int32) (n_28 : Nat) (v_26 : Int32) (σ_27 : St) (σ_33 : St), f_X11_sortsPart_L51 c_22 c_23 c_24 n_28 v_26 σ_27 = some (σ_33) → gG p l e ({ frames := 2, cells := 0, slots := 0, locals := 48 } : Room) s m args below meth c D (cyT cy) B 7 (eI D (cyT cy) (mW cy A X9) B below args s r σ') (mW cy A X9 σ_33) 0 0 85 [(5, .int c_25)] [] → gG p l e ({ frames := 2, cells := 0, slots := 0, locals := 48 } : Room) s m args below meth c D (cyT cy) B 7 (eI D (cyT cy) (mW cy A X9) B below args s r σ') (mW cy A X9 σ_27) 0 0 51 [(0, .ref (A 0)), (1, .int c_22), (2, .int c_23), (3, .int c_24), (5, .int c_25), (6, .int v_26)] [] := by
      intro c_22 c_23 c_24 c_25 n_28
      induction n_28 with
      | zero =>
        intro v_26 σ_27 σ_33 h K_30
        rw [f_X11_sortsPart_L51] at h
        cases h
      | succ n_28 ih_29 =>
        intro v_26 σ_27 σ_33 h K_30
        rw [f_X11_sortsPart_L51] at h
        refine g_iload X dX11_sortsPart_51 5 rfl ?_
        refine g_iload_n X dX11_sortsPart_53 rfl 3 rfl ?_
        refine g_icmp_ge X (tgt := 85) dX11_sortsPart_54 (by decide) (fun hc_34 => ?_) (fun hc_34 => ?_)
        · have h := ift hc_34 h
          cases h
          exact g_sub [4] rfl K_30
        · have h := iff_ hc_34 h
          refine g_aload_n X dX11_sortsPart_57 rfl 0 rfl ?_
          refine g_get X (AD := A) mm0 (mE_0 cy A σ_27) hin11 rfl 3 (by decide) lk1 (fun _ h9 => h9) rfl dX11_sortsPart_58 ?_
          refine g_sipush X dX11_sortsPart_61 (v := (800 : Int32)) (by decide) ?_
          refine g_iload_n X dX11_sortsPart_64 rfl 1 rfl ?_
          refine g_imul X dX11_sortsPart_65 ?_
          refine g_iload X dX11_sortsPart_66 5 rfl ?_
          refine g_iadd X dX11_sortsPart_68 ?_
          refine g_aload_n X dX11_sortsPart_69 rfl 0 rfl ?_
          refine g_get X (AD := A) mm0 (mE_0 cy A σ_27) hin11 rfl 11 (by decide) lk0 (fun _ h9 => h9) rfl dX11_sortsPart_70 ?_
          refine g_iload X dX11_sortsPart_73 5 rfl ?_
          refine g_iload_n X dX11_sortsPart_75 rfl 2 rfl ?_
          refine g_isub X dX11_sortsPart_76 ?_
          obtain ⟨hg_35, h⟩ := grd_some h
          refine g_iald X (AD := A) mm12 (mE_12 cy A σ_27) 0 rfl hg_35 dX11_sortsPart_77 ?_
          obtain ⟨hg_36, h⟩ := grd_some h
          refine g_iast X (AD := A) (σ' := sr σ_27 4 (upd (gr σ_27 4) (((800 : Int32) * c_22) + v_26).toNatClampNeg (gr σ_27 12 (v_26 - c_23).toNatClampNeg))) mm4 (mE_4 cy A σ_27) 0 rfl hg_36 (sm_a4 cy A σ_27 (upd (gr σ_27 4) (((800 : Int32) * c_22) + v_26).toNatClampNeg (gr σ_27 12 (v_26 - c_23).toNatClampNeg))) dX11_sortsPart_78 ?_
          obtain ⟨σ_37, e_38, h⟩ := bnd_some h
          have e_38 := Option.some.inj e_38
          rw [e_38]
          refine g_iinc X dX11_sortsPart_79 5 rfl (v := v_26 + (1 : Int32)) rfl (by decide) (lv' := [(6, .int (v_26 + (1 : Int32))), (0, .ref (A 0)), (1, .int c_22), (2, .int c_23), (3, .int c_24), (5, .int c_25)]) rfl ?_
          refine g_goto X (tgt := 51) dX11_sortsPart_82 (by decide) ?_
          exact g_sub [1, 2, 3, 4, 5, 0] rfl (ih_29 _ _ _ h K_30)
    obtain ⟨σ_33, hl_39, h⟩ := bnd_some h
    refine g_sub [2, 3, 4, 5, 1, 0] rfl (L_32 a1 a2 a3 r_20 FU a2 σ_21 σ_33 hl_39 ?_)
    refine g_iload X dX11_sortsPart_85 0 rfl ?_
    cases h
    exact g_iret (Wf := mW cy A X9) X ⟨rfl, rfl⟩ dX11_sortsPart_87
  exact K0
set_option maxHeartbeats 8000000 in
set_option maxRecDepth 100000 in
theorem m_X11_sort {σ : St} {a1 : Int32} {r : Int32} {σ' : St} (h : f_X11_sort a1 σ = some (r, σ')) : mI (ZC aK aO aS aV aT) D (cyT cy) l yX11_sort wsX11_sort ({ frames := 3, cells := 0, slots := 0, locals := 74 } : Room) (mW cy A X9) [.ref (A 0), .int a1] σ r σ' := by
  unfold f_X11_sort at h
  refine mI_of (cc := cX11_sort) (maxL := 2) (ret := (some .int)) (by decide) rfl (Nat.le_of_ble_eq_true rfl) (fun p e s m args below meth c B X => ?_)
  have hin11 : ∀ w ∈ wsX110, w ∈ wsX11_sort := by decide +kernel
  have lk0 : Cond.fieldLink RX11 22 "CardcabinetModel" "many" "[I" ∈ wsX11_sort := by decide +kernel
  have K0 : gG p l e ({ frames := 3, cells := 0, slots := 0, locals := 74 } : Room) s m args below meth c D (cyT cy) B 2 (eI D (cyT cy) (mW cy A X9) B below args s r σ') (mW cy A X9 σ) 0 0 0 [(0, .ref (A 0)), (1, .int a1)] [] := by
    refine g_iload_n X dX11_sort_0 rfl 1 rfl ?_
    obtain ⟨r_2, hf_1, h⟩ := bnd_some h
    refine g_callSI (AD := A) (As := [.int a1]) X (ZC_ok _ _ _ _ _) (m_X11_isRow hf_1) (va_cwS 1 X.1.2.2.2.2 gX11_sort_X11_isRow rfl rfl rfl (by decide +kernel) ⟨Nat.le_of_ble_eq_true rfl, Nat.le_of_ble_eq_true rfl⟩) rfl rfl (Nat.le_of_ble_eq_true rfl) ⟨by decide, by decide⟩ dX11_sort_1 ?_
    obtain ⟨v_4, σ_5, hj_17, h⟩ := bnd2_some h
    have K_6 : gG p l e ({ frames := 3, cells := 0, slots := 0, locals := 74 } : Room) s m args below meth c D (cyT cy) B 2 (eI D (cyT cy) (mW cy A X9) B below args s r σ') (mW cy A X9 σ_5) 0 0 32 [] [.int v_4] := by
      cases h
      exact g_iret (Wf := mW cy A X9) X ⟨rfl, rfl⟩ dX11_sort_32
    have h := hj_17
    clear hj_17
    refine g_if_eq X (tgt := 27) dX11_sort_4 (by decide) (fun hc_3 => ?_) (fun hc_3 => ?_)
    · have h := ift hc_3 h
      refine g_aload_n X dX11_sort_27 rfl 0 rfl ?_
      refine g_iconst X dX11_sort_28 (v := (1 : Int32)) (by decide) ?_
      obtain ⟨r_8, σ_9, hf_7, h⟩ := bnd2_some h
      refine g_callVI (AD := A) (As := [.int (1 : Int32)]) X (ZC_ok _ _ _ _ _) (m_X11_refuse hf_7) (cwV 1 X.1.2.2.2.2 gX11_sort_X11_refuse rfl rfl rfl (by decide +kernel) ⟨Nat.le_of_ble_eq_true rfl, Nat.le_of_ble_eq_true rfl⟩) rfl mm0 (mE_0 cy A σ) rfl rfl (Nat.le_of_ble_eq_true rfl) ⟨by decide, by decide⟩ dX11_sort_29 ?_
      cases h
      exact g_sub [] rfl K_6
    · have h := iff_ hc_3 h
      refine g_aload_n X dX11_sort_7 rfl 0 rfl ?_
      refine g_aload_n X dX11_sort_8 rfl 0 rfl ?_
      refine g_iload_n X dX11_sort_9 rfl 1 rfl ?_
      refine g_iconst X dX11_sort_10 (v := (0 : Int32)) (by decide) ?_
      refine g_aload_n X dX11_sort_11 rfl 0 rfl ?_
      refine g_get X (AD := A) mm0 (mE_0 cy A σ) hin11 rfl 5 (by decide) lk0 (fun _ h9 => h9) rfl dX11_sort_12 ?_
      refine g_iload_n X dX11_sort_15 rfl 1 rfl ?_
      obtain ⟨hg_10, h⟩ := grd_some h
      refine g_iald X (AD := A) mm6 (mE_6 cy A σ) 0 rfl hg_10 dX11_sort_16 ?_
      refine g_iconst X dX11_sort_17 (v := (0 : Int32)) (by decide) ?_
      obtain ⟨r_12, σ_13, hf_11, h⟩ := bnd2_some h
      refine g_callVI (AD := A) (As := [.int a1, .int (0 : Int32), .int (gr σ 6 a1.toNatClampNeg), .int (0 : Int32)]) X (ZC_ok _ _ _ _ _) (m_X11_sortsPart hf_11) (cwV 4 X.1.2.2.2.2 gX11_sort_X11_sortsPart rfl rfl rfl (by decide +kernel) ⟨Nat.le_of_ble_eq_true rfl, Nat.le_of_ble_eq_true rfl⟩) rfl mm0 (mE_0 cy A σ) rfl rfl (Nat.le_of_ble_eq_true rfl) ⟨by decide, by decide⟩ dX11_sort_18 ?_
      obtain ⟨r_15, σ_16, hf_14, h⟩ := bnd2_some h
      refine g_callVI (AD := A) (As := [.int r_12]) X (ZC_ok _ _ _ _ _) (m_X11_told hf_14) (cwV 1 X.1.2.2.2.2 gX11_sort_X11_told rfl rfl rfl (by decide +kernel) ⟨Nat.le_of_ble_eq_true rfl, Nat.le_of_ble_eq_true rfl⟩) rfl mm0 (mE_0 cy A σ_13) rfl rfl (Nat.le_of_ble_eq_true rfl) ⟨by decide, by decide⟩ dX11_sort_21 ?_
      refine g_goto X (tgt := 32) dX11_sort_24 (by decide) ?_
      cases h
      exact g_sub [] rfl K_6
  exact K0
set_option maxHeartbeats 8000000 in
set_option maxRecDepth 100000 in
theorem m_X11_sortAll {σ : St} {r : Int32} {σ' : St} (h : f_X11_sortAll σ = some (r, σ')) : mI (ZC aK aO aS aV aT) D (cyT cy) l yX11_sortAll wsX11_sortAll ({ frames := 2, cells := 0, slots := 0, locals := 48 } : Room) (mW cy A X9) [.ref (A 0)] σ r σ' := by
  unfold f_X11_sortAll at h
  refine mI_of (cc := cX11_sortAll) (maxL := 5) (ret := (some .int)) (by decide) rfl (Nat.le_of_ble_eq_true rfl) (fun p e s m args below meth c B X => ?_)
  have hin11 : ∀ w ∈ wsX110, w ∈ wsX11_sortAll := by decide +kernel
  have lk0 : Cond.fieldLink RX11 22 "CardcabinetModel" "many" "[I" ∈ wsX11_sortAll := by decide +kernel
  have lk1 : Cond.fieldLink RX11 35 "CardcabinetModel" "work" "[I" ∈ wsX11_sortAll := by decide +kernel
  have lk2 : Cond.fieldLink RX11 16 "CardcabinetModel" "cards" "[I" ∈ wsX11_sortAll := by decide +kernel
  have K0 : gG p l e ({ frames := 2, cells := 0, slots := 0, locals := 48 } : Room) s m args below meth c D (cyT cy) B 5 (eI D (cyT cy) (mW cy A X9) B below args s r σ') (mW cy A X9 σ) 0 0 0 [(0, .ref (A 0))] [] := by
    refine g_iconst X dX11_sortAll_0 (v := (0 : Int32)) (by decide) ?_
    refine g_istore_n X dX11_sortAll_1 rfl (by decide) (lv' := [(1, .int (0 : Int32)), (0, .ref (A 0))]) rfl ?_
    refine g_iconst X dX11_sortAll_2 (v := (0 : Int32)) (by decide) ?_
    refine g_istore_n X dX11_sortAll_3 rfl (by decide) (lv' := [(2, .int (0 : Int32)), (1, .int (0 : Int32)), (0, .ref (A 0))]) rfl ?_
    have L_8 : ∀ (n_4 : Nat) (v_1 : Int32) (v_2 : Int32) (σ_3 : St) (o_10 : Int32) (σ_9 : St), f_X11_sortAll_L4 n_4 v_1 v_2 σ_3 = some (o_10, σ_9) → gG p l e ({ frames := 2, cells := 0, slots := 0, locals := 48 } : Room) s m args below meth c D (cyT cy) B 5 (eI D (cyT cy) (mW cy A X9) B below args s r σ') (mW cy A X9 σ_9) 0 0 54 [(0, .ref (A 0)), (1, .int o_10)] [] → gG p l e ({ frames := 2, cells := 0, slots := 0, locals := 48 } : Room) s m args below meth c D (cyT cy) B 5 (eI D (cyT cy) (mW cy A X9) B below args s r σ') (mW cy A X9 σ_3) 0 0 4 [(0, .ref (A 0)), (1, .int v_1), (2, .int v_2)] [] := by
      intro n_4
      induction n_4 with
      | zero =>
        intro v_1 v_2 σ_3 o_10 σ_9 h K_6
        rw [f_X11_sortAll_L4] at h
        cases h
      | succ n_4 ih_5 =>
        intro v_1 v_2 σ_3 o_10 σ_9 h K_6
        rw [f_X11_sortAll_L4] at h
        refine g_iload_n X dX11_sortAll_4 rfl 2 rfl ?_
        refine g_iconst X dX11_sortAll_5 (v := (4 : Int32)) (by decide) ?_
        refine g_icmp_ge X (tgt := 54) dX11_sortAll_6 (by decide) (fun hc_11 => ?_) (fun hc_11 => ?_)
        · have h := ift hc_11 h
          cases h
          exact g_sub [0, 1] rfl K_6
        · have h := iff_ hc_11 h
          refine g_iconst X dX11_sortAll_9 (v := (0 : Int32)) (by decide) ?_
          refine g_istore_n X dX11_sortAll_10 rfl (by decide) (lv' := [(3, .int (0 : Int32)), (0, .ref (A 0)), (1, .int v_1), (2, .int v_2)]) rfl ?_
          have L_20 : ∀ (c_13 : Int32) (n_16 : Nat) (v_12 : Int32) (v_14 : Int32) (σ_15 : St) (o_22 : Int32) (σ_21 : St), f_X11_sortAll_L11 c_13 n_16 v_12 v_14 σ_15 = some (o_22, σ_21) → gG p l e ({ frames := 2, cells := 0, slots := 0, locals := 48 } : Room) s m args below meth c D (cyT cy) B 5 (eI D (cyT cy) (mW cy A X9) B below args s r σ') (mW cy A X9 σ_21) 0 0 48 [(0, .ref (A 0)), (1, .int o_22), (2, .int c_13)] [] → gG p l e ({ frames := 2, cells := 0, slots := 0, locals := 48 } : Room) s m args below meth c D (cyT cy) B 5 (eI D (cyT cy) (mW cy A X9) B below args s r σ') (mW cy A X9 σ_15) 0 0 11 [(0, .ref (A 0)), (1, .int v_12), (2, .int c_13), (3, .int v_14)] [] := by
            intro c_13 n_16
            induction n_16 with
            | zero =>
              intro v_12 v_14 σ_15 o_22 σ_21 h K_18
              rw [f_X11_sortAll_L11] at h
              cases h
            | succ n_16 ih_17 =>
              intro v_12 v_14 σ_15 o_22 σ_21 h K_18
              rw [f_X11_sortAll_L11] at h
              refine g_iload_n X dX11_sortAll_11 rfl 3 rfl ?_
              refine g_aload_n X dX11_sortAll_12 rfl 0 rfl ?_
              refine g_get X (AD := A) mm0 (mE_0 cy A σ_15) hin11 rfl 5 (by decide) lk0 (fun _ h9 => h9) rfl dX11_sortAll_13 ?_
              refine g_iload_n X dX11_sortAll_16 rfl 2 rfl ?_
              obtain ⟨hg_23, h⟩ := grd_some h
              refine g_iald X (AD := A) mm6 (mE_6 cy A σ_15) 0 rfl hg_23 dX11_sortAll_17 ?_
              refine g_icmp_ge X (tgt := 48) dX11_sortAll_18 (by decide) (fun hc_24 => ?_) (fun hc_24 => ?_)
              · have h := ift hc_24 h
                cases h
                exact g_sub [0, 1, 2] rfl K_18
              · have h := iff_ hc_24 h
                refine g_aload_n X dX11_sortAll_21 rfl 0 rfl ?_
                refine g_get X (AD := A) mm0 (mE_0 cy A σ_15) hin11 rfl 11 (by decide) lk1 (fun _ h9 => h9) rfl dX11_sortAll_22 ?_
                refine g_iload_n X dX11_sortAll_25 rfl 1 rfl ?_
                refine g_aload_n X dX11_sortAll_26 rfl 0 rfl ?_
                refine g_get X (AD := A) mm0 (mE_0 cy A σ_15) hin11 rfl 3 (by decide) lk2 (fun _ h9 => h9) rfl dX11_sortAll_27 ?_
                refine g_sipush X dX11_sortAll_30 (v := (800 : Int32)) (by decide) ?_
                refine g_iload_n X dX11_sortAll_33 rfl 2 rfl ?_
                refine g_imul X dX11_sortAll_34 ?_
                refine g_iload_n X dX11_sortAll_35 rfl 3 rfl ?_
                refine g_iadd X dX11_sortAll_36 ?_
                obtain ⟨hg_25, h⟩ := grd_some h
                refine g_iald X (AD := A) mm4 (mE_4 cy A σ_15) 0 rfl hg_25 dX11_sortAll_37 ?_
                obtain ⟨hg_26, h⟩ := grd_some h
                refine g_iast X (AD := A) (σ' := sr σ_15 12 (upd (gr σ_15 12) v_12.toNatClampNeg (gr σ_15 4 (((800 : Int32) * c_13) + v_14).toNatClampNeg))) mm12 (mE_12 cy A σ_15) 0 rfl hg_26 (sm_a12 cy A σ_15 (upd (gr σ_15 12) v_12.toNatClampNeg (gr σ_15 4 (((800 : Int32) * c_13) + v_14).toNatClampNeg))) dX11_sortAll_38 ?_
                obtain ⟨σ_27, e_28, h⟩ := bnd_some h
                have e_28 := Option.some.inj e_28
                rw [e_28]
                refine g_iinc X dX11_sortAll_39 1 rfl (v := v_12 + (1 : Int32)) rfl (by decide) (lv' := [(1, .int (v_12 + (1 : Int32))), (0, .ref (A 0)), (2, .int c_13), (3, .int v_14)]) rfl ?_
                refine g_iinc X dX11_sortAll_42 3 rfl (v := v_14 + (1 : Int32)) rfl (by decide) (lv' := [(3, .int (v_14 + (1 : Int32))), (1, .int (v_12 + (1 : Int32))), (0, .ref (A 0)), (2, .int c_13)]) rfl ?_
                refine g_goto X (tgt := 11) dX11_sortAll_45 (by decide) ?_
                exact g_sub [2, 1, 3, 0] rfl (ih_17 _ _ _ _ _ h K_18)
          obtain ⟨o_22, σ_21, hl_29, h⟩ := bnd2_some h
          refine g_sub [1, 2, 3, 0] rfl (L_20 v_2 FU v_1 (0 : Int32) σ_3 o_22 σ_21 hl_29 ?_)
          refine g_iinc X dX11_sortAll_48 2 rfl (v := v_2 + (1 : Int32)) rfl (by decide) (lv' := [(2, .int (v_2 + (1 : Int32))), (0, .ref (A 0)), (1, .int o_22)]) rfl ?_
          refine g_goto X (tgt := 4) dX11_sortAll_51 (by decide) ?_
          exact g_sub [1, 2, 0] rfl (ih_5 _ _ _ _ _ h K_6)
    obtain ⟨o_10, σ_9, hl_30, h⟩ := bnd2_some h
    refine g_sub [2, 1, 0] rfl (L_8 FU (0 : Int32) (0 : Int32) σ o_10 σ_9 hl_30 ?_)
    refine g_aload_n X dX11_sortAll_54 rfl 0 rfl ?_
    refine g_iload_n X dX11_sortAll_55 rfl 1 rfl ?_
    refine g_iconst X dX11_sortAll_56 (v := (0 : Int32)) (by decide) ?_
    obtain ⟨r_32, σ_33, hf_31, h⟩ := bnd2_some h
    refine g_callVI (AD := A) (As := [.int o_10, .int (0 : Int32)]) X (ZC_ok _ _ _ _ _) (m_X11_sorts hf_31) (cwV 2 X.1.2.2.2.2 gX11_sortAll_X11_sorts rfl rfl rfl (by decide +kernel) ⟨Nat.le_of_ble_eq_true rfl, Nat.le_of_ble_eq_true rfl⟩) rfl mm0 (mE_0 cy A σ_9) rfl rfl (Nat.le_of_ble_eq_true rfl) ⟨by decide, by decide⟩ dX11_sortAll_57 ?_
    refine g_istore_n X dX11_sortAll_60 rfl (by decide) (lv' := [(2, .int r_32), (0, .ref (A 0)), (1, .int o_10)]) rfl ?_
    refine g_iconst X dX11_sortAll_61 (v := (0 : Int32)) (by decide) ?_
    refine g_istore_n X dX11_sortAll_62 rfl (by decide) (lv' := [(1, .int (0 : Int32)), (2, .int r_32), (0, .ref (A 0))]) rfl ?_
    refine g_iconst X dX11_sortAll_63 (v := (0 : Int32)) (by decide) ?_
    refine g_istore_n X dX11_sortAll_64 rfl (by decide) (lv' := [(3, .int (0 : Int32)), (1, .int (0 : Int32)), (2, .int r_32), (0, .ref (A 0))]) rfl ?_
    have L_42 : ∀ (c_35 : Int32) (n_38 : Nat) (v_34 : Int32) (v_36 : Int32) (σ_37 : St) (σ_43 : St), f_X11_sortAll_L65 n_38 v_34 v_36 σ_37 = some (σ_43) → gG p l e ({ frames := 2, cells := 0, slots := 0, locals := 48 } : Room) s m args below meth c D (cyT cy) B 5 (eI D (cyT cy) (mW cy A X9) B below args s r σ') (mW cy A X9 σ_43) 0 0 118 [(0, .ref (A 0)), (2, .int c_35)] [] → gG p l e ({ frames := 2, cells := 0, slots := 0, locals := 48 } : Room) s m args below meth c D (cyT cy) B 5 (eI D (cyT cy) (mW cy A X9) B below args s r σ') (mW cy A X9 σ_37) 0 0 65 [(0, .ref (A 0)), (1, .int v_34), (2, .int c_35), (3, .int v_36)] [] := by
      intro c_35 n_38
      induction n_38 with
      | zero =>
        intro v_34 v_36 σ_37 σ_43 h K_40
        rw [f_X11_sortAll_L65] at h
        cases h
      | succ n_38 ih_39 =>
        intro v_34 v_36 σ_37 σ_43 h K_40
        rw [f_X11_sortAll_L65] at h
        refine g_iload_n X dX11_sortAll_65 rfl 3 rfl ?_
        refine g_iconst X dX11_sortAll_66 (v := (4 : Int32)) (by decide) ?_
        refine g_icmp_ge X (tgt := 118) dX11_sortAll_67 (by decide) (fun hc_44 => ?_) (fun hc_44 => ?_)
        · have h := ift hc_44 h
          cases h
          exact g_sub [0, 2] rfl K_40
        · have h := iff_ hc_44 h
          refine g_iconst X dX11_sortAll_70 (v := (0 : Int32)) (by decide) ?_
          refine g_istore X dX11_sortAll_71 (by decide) (lv' := [(4, .int (0 : Int32)), (0, .ref (A 0)), (1, .int v_34), (2, .int c_35), (3, .int v_36)]) rfl ?_
          have L_54 : ∀ (c_46 : Int32) (c_47 : Int32) (n_50 : Nat) (v_45 : Int32) (v_48 : Int32) (σ_49 : St) (o_56 : Int32) (σ_55 : St), f_X11_sortAll_L73 c_47 n_50 v_45 v_48 σ_49 = some (o_56, σ_55) → gG p l e ({ frames := 2, cells := 0, slots := 0, locals := 48 } : Room) s m args below meth c D (cyT cy) B 5 (eI D (cyT cy) (mW cy A X9) B below args s r σ') (mW cy A X9 σ_55) 0 0 112 [(0, .ref (A 0)), (1, .int o_56), (2, .int c_46), (3, .int c_47)] [] → gG p l e ({ frames := 2, cells := 0, slots := 0, locals := 48 } : Room) s m args below meth c D (cyT cy) B 5 (eI D (cyT cy) (mW cy A X9) B below args s r σ') (mW cy A X9 σ_49) 0 0 73 [(0, .ref (A 0)), (1, .int v_45), (2, .int c_46), (3, .int c_47), (4, .int v_48)] [] := by
            intro c_46 c_47 n_50
            induction n_50 with
            | zero =>
              intro v_45 v_48 σ_49 o_56 σ_55 h K_52
              rw [f_X11_sortAll_L73] at h
              cases h
            | succ n_50 ih_51 =>
              intro v_45 v_48 σ_49 o_56 σ_55 h K_52
              rw [f_X11_sortAll_L73] at h
              refine g_iload X dX11_sortAll_73 4 rfl ?_
              refine g_aload_n X dX11_sortAll_75 rfl 0 rfl ?_
              refine g_get X (AD := A) mm0 (mE_0 cy A σ_49) hin11 rfl 5 (by decide) lk0 (fun _ h9 => h9) rfl dX11_sortAll_76 ?_
              refine g_iload_n X dX11_sortAll_79 rfl 3 rfl ?_
              obtain ⟨hg_57, h⟩ := grd_some h
              refine g_iald X (AD := A) mm6 (mE_6 cy A σ_49) 0 rfl hg_57 dX11_sortAll_80 ?_
              refine g_icmp_ge X (tgt := 112) dX11_sortAll_81 (by decide) (fun hc_58 => ?_) (fun hc_58 => ?_)
              · have h := ift hc_58 h
                cases h
                exact g_sub [0, 1, 2, 3] rfl K_52
              · have h := iff_ hc_58 h
                refine g_aload_n X dX11_sortAll_84 rfl 0 rfl ?_
                refine g_get X (AD := A) mm0 (mE_0 cy A σ_49) hin11 rfl 3 (by decide) lk2 (fun _ h9 => h9) rfl dX11_sortAll_85 ?_
                refine g_sipush X dX11_sortAll_88 (v := (800 : Int32)) (by decide) ?_
                refine g_iload_n X dX11_sortAll_91 rfl 3 rfl ?_
                refine g_imul X dX11_sortAll_92 ?_
                refine g_iload X dX11_sortAll_93 4 rfl ?_
                refine g_iadd X dX11_sortAll_95 ?_
                refine g_aload_n X dX11_sortAll_96 rfl 0 rfl ?_
                refine g_get X (AD := A) mm0 (mE_0 cy A σ_49) hin11 rfl 11 (by decide) lk1 (fun _ h9 => h9) rfl dX11_sortAll_97 ?_
                refine g_iload_n X dX11_sortAll_100 rfl 1 rfl ?_
                obtain ⟨hg_59, h⟩ := grd_some h
                refine g_iald X (AD := A) mm12 (mE_12 cy A σ_49) 0 rfl hg_59 dX11_sortAll_101 ?_
                obtain ⟨hg_60, h⟩ := grd_some h
                refine g_iast X (AD := A) (σ' := sr σ_49 4 (upd (gr σ_49 4) (((800 : Int32) * c_47) + v_48).toNatClampNeg (gr σ_49 12 v_45.toNatClampNeg))) mm4 (mE_4 cy A σ_49) 0 rfl hg_60 (sm_a4 cy A σ_49 (upd (gr σ_49 4) (((800 : Int32) * c_47) + v_48).toNatClampNeg (gr σ_49 12 v_45.toNatClampNeg))) dX11_sortAll_102 ?_
                obtain ⟨σ_61, e_62, h⟩ := bnd_some h
                have e_62 := Option.some.inj e_62
                rw [e_62]
                refine g_iinc X dX11_sortAll_103 1 rfl (v := v_45 + (1 : Int32)) rfl (by decide) (lv' := [(1, .int (v_45 + (1 : Int32))), (0, .ref (A 0)), (2, .int c_46), (3, .int c_47), (4, .int v_48)]) rfl ?_
                refine g_iinc X dX11_sortAll_106 4 rfl (v := v_48 + (1 : Int32)) rfl (by decide) (lv' := [(4, .int (v_48 + (1 : Int32))), (1, .int (v_45 + (1 : Int32))), (0, .ref (A 0)), (2, .int c_46), (3, .int c_47)]) rfl ?_
                refine g_goto X (tgt := 73) dX11_sortAll_109 (by decide) ?_
                exact g_sub [2, 1, 3, 4, 0] rfl (ih_51 _ _ _ _ _ h K_52)
          obtain ⟨o_56, σ_55, hl_63, h⟩ := bnd2_some h
          refine g_sub [1, 2, 3, 4, 0] rfl (L_54 c_35 v_36 FU v_34 (0 : Int32) σ_37 o_56 σ_55 hl_63 ?_)
          refine g_iinc X dX11_sortAll_112 3 rfl (v := v_36 + (1 : Int32)) rfl (by decide) (lv' := [(3, .int (v_36 + (1 : Int32))), (0, .ref (A 0)), (1, .int o_56), (2, .int c_35)]) rfl ?_
          refine g_goto X (tgt := 65) dX11_sortAll_115 (by decide) ?_
          exact g_sub [1, 2, 3, 0] rfl (ih_39 _ _ _ _ h K_40)
    obtain ⟨σ_43, hl_64, h⟩ := bnd_some h
    refine g_sub [3, 1, 2, 0] rfl (L_42 r_32 FU (0 : Int32) (0 : Int32) σ_33 σ_43 hl_64 ?_)
    refine g_aload_n X dX11_sortAll_118 rfl 0 rfl ?_
    refine g_iload_n X dX11_sortAll_119 rfl 1 rfl ?_
    obtain ⟨r_66, σ_67, hf_65, h⟩ := bnd2_some h
    refine g_callVI (AD := A) (As := [.int r_32]) X (ZC_ok _ _ _ _ _) (m_X11_told hf_65) (cwV 1 X.1.2.2.2.2 gX11_sortAll_X11_told rfl rfl rfl (by decide +kernel) ⟨Nat.le_of_ble_eq_true rfl, Nat.le_of_ble_eq_true rfl⟩) rfl mm0 (mE_0 cy A σ_43) rfl rfl (Nat.le_of_ble_eq_true rfl) ⟨by decide, by decide⟩ dX11_sortAll_120 ?_
    cases h
    exact g_iret (Wf := mW cy A X9) X ⟨rfl, rfl⟩ dX11_sortAll_123
  exact K0
set_option maxHeartbeats 8000000 in
set_option maxRecDepth 100000 in
theorem m_X11_isPart {σ : St} {a1 : Int32} {a2 : Int32} {a3 : Int32} {r : Int32} (h : f_X11_isPart a1 a2 a3 σ = some r) : mI (ZC aK aO aS aV aT) D (cyT cy) l yX11_isPart wsX11_isPart ({ frames := 2, cells := 0, slots := 0, locals := 42 } : Room) (mW cy A X9) [.ref (A 0), .int a1, .int a2, .int a3] σ r σ := by
  unfold f_X11_isPart at h
  refine mI_of (cc := cX11_isPart) (maxL := 4) (ret := (some .boolean)) (by decide) rfl (Nat.le_of_ble_eq_true rfl) (fun p e s m args below meth c B X => ?_)
  have hin11 : ∀ w ∈ wsX110, w ∈ wsX11_isPart := by decide +kernel
  have lk0 : Cond.fieldLink RX11 22 "CardcabinetModel" "many" "[I" ∈ wsX11_isPart := by decide +kernel
  have K0 : gG p l e ({ frames := 2, cells := 0, slots := 0, locals := 42 } : Room) s m args below meth c D (cyT cy) B 4 (eI D (cyT cy) (mW cy A X9) B below args s r σ) (mW cy A X9 σ) 0 0 0 [(0, .ref (A 0)), (1, .int a1), (2, .int a2), (3, .int a3)] [] := by
    refine g_iload_n X dX11_isPart_0 rfl 1 rfl ?_
    obtain ⟨r_2, hf_1, h⟩ := bnd_some h
    refine g_callSI (AD := A) (As := [.int a1]) X (ZC_ok _ _ _ _ _) (m_X11_isRow hf_1) (va_cwS 1 X.1.2.2.2.2 gX11_isPart_X11_isRow rfl rfl rfl (by decide +kernel) ⟨Nat.le_of_ble_eq_true rfl, Nat.le_of_ble_eq_true rfl⟩) rfl rfl (Nat.le_of_ble_eq_true rfl) ⟨by decide, by decide⟩ dX11_isPart_1 ?_
    obtain ⟨v_4, hj_10, h⟩ := bnd_some h
    have K_5 : gG p l e ({ frames := 2, cells := 0, slots := 0, locals := 42 } : Room) s m args below meth c D (cyT cy) B 4 (eI D (cyT cy) (mW cy A X9) B below args s r σ) (mW cy A X9 σ) 0 0 26 [] [.int v_4] := by
      obtain ⟨hg_9, h⟩ := grd_some h
      cases h
      exact g_zret (Wf := mW cy A X9) X (nar01 hg_9) ⟨rfl, rfl⟩ dX11_isPart_26
    have h := hj_10
    clear hj_10
    refine g_if_eq X (tgt := 25) dX11_isPart_4 (by decide) (fun hc_3 => ?_) (fun hc_3 => ?_)
    · have h := ift hc_3 h
      refine g_iconst X dX11_isPart_25 (v := (0 : Int32)) (by decide) ?_
      cases h
      exact g_sub [] rfl K_5
    · have h := iff_ hc_3 h
      refine g_iload_n X dX11_isPart_7 rfl 2 rfl ?_
      refine g_if_lt X (tgt := 25) dX11_isPart_8 (by decide) (fun hc_6 => ?_) (fun hc_6 => ?_)
      · have h := ift hc_6 h
        refine g_iconst X dX11_isPart_25 (v := (0 : Int32)) (by decide) ?_
        cases h
        exact g_sub [] rfl K_5
      · have h := iff_ hc_6 h
        refine g_iload_n X dX11_isPart_11 rfl 3 rfl ?_
        refine g_aload_n X dX11_isPart_12 rfl 0 rfl ?_
        refine g_get X (AD := A) mm0 (mE_0 cy A σ) hin11 rfl 5 (by decide) lk0 (fun _ h9 => h9) rfl dX11_isPart_13 ?_
        refine g_iload_n X dX11_isPart_16 rfl 1 rfl ?_
        obtain ⟨hg_7, h⟩ := grd_some h
        refine g_iald X (AD := A) mm6 (mE_6 cy A σ) 0 rfl hg_7 dX11_isPart_17 ?_
        refine g_icmp_gt X (tgt := 25) dX11_isPart_18 (by decide) (fun hc_8 => ?_) (fun hc_8 => ?_)
        · have h := ift hc_8 h
          refine g_iconst X dX11_isPart_25 (v := (0 : Int32)) (by decide) ?_
          cases h
          exact g_sub [] rfl K_5
        · have h := iff_ hc_8 h
          refine g_iconst X dX11_isPart_21 (v := (1 : Int32)) (by decide) ?_
          refine g_goto X (tgt := 26) dX11_isPart_22 (by decide) ?_
          cases h
          exact g_sub [] rfl K_5
  exact K0
set_option maxHeartbeats 8000000 in
set_option maxRecDepth 100000 in
theorem m_X11_sortPart {σ : St} {a1 : Int32} {a2 : Int32} {a3 : Int32} {r : Int32} {σ' : St} (h : f_X11_sortPart a1 a2 a3 σ = some (r, σ')) : mI (ZC aK aO aS aV aT) D (cyT cy) l yX11_sortPart wsX11_sortPart ({ frames := 3, cells := 0, slots := 0, locals := 74 } : Room) (mW cy A X9) [.ref (A 0), .int a1, .int a2, .int a3] σ r σ' := by
  unfold f_X11_sortPart at h
  refine mI_of (cc := cX11_sortPart) (maxL := 4) (ret := (some .int)) (by decide) rfl (Nat.le_of_ble_eq_true rfl) (fun p e s m args below meth c B X => ?_)
  have K0 : gG p l e ({ frames := 3, cells := 0, slots := 0, locals := 74 } : Room) s m args below meth c D (cyT cy) B 4 (eI D (cyT cy) (mW cy A X9) B below args s r σ') (mW cy A X9 σ) 0 0 0 [(0, .ref (A 0)), (1, .int a1), (2, .int a2), (3, .int a3)] [] := by
    refine g_aload_n X dX11_sortPart_0 rfl 0 rfl ?_
    refine g_iload_n X dX11_sortPart_1 rfl 1 rfl ?_
    refine g_iload_n X dX11_sortPart_2 rfl 2 rfl ?_
    refine g_iload_n X dX11_sortPart_3 rfl 3 rfl ?_
    obtain ⟨r_2, hf_1, h⟩ := bnd_some h
    refine g_callVI (AD := A) (As := [.int a1, .int a2, .int a3]) X (ZC_ok _ _ _ _ _) (m_X11_isPart hf_1) (cwV 3 X.1.2.2.2.2 gX11_sortPart_X11_isPart rfl rfl rfl (by decide +kernel) ⟨Nat.le_of_ble_eq_true rfl, Nat.le_of_ble_eq_true rfl⟩) rfl mm0 (mE_0 cy A σ) rfl rfl (Nat.le_of_ble_eq_true rfl) ⟨by decide, by decide⟩ dX11_sortPart_4 ?_
    refine g_if_ne X (tgt := 16) dX11_sortPart_7 (by decide) (fun hc_3 => ?_) (fun hc_3 => ?_)
    · have h := iff_ hc_3 h
      refine g_iload_n X dX11_sortPart_16 rfl 2 rfl ?_
      refine g_iload_n X dX11_sortPart_17 rfl 3 rfl ?_
      obtain ⟨v_5, σ_6, hj_17, h⟩ := bnd2_some h
      have K_7 : gG p l e ({ frames := 3, cells := 0, slots := 0, locals := 74 } : Room) s m args below meth c D (cyT cy) B 4 (eI D (cyT cy) (mW cy A X9) B below args s r σ') (mW cy A X9 σ_6) 0 0 41 [] [.int v_5] := by
        cases h
        exact g_iret (Wf := mW cy A X9) X ⟨rfl, rfl⟩ dX11_sortPart_41
      have h := hj_17
      clear hj_17
      refine g_icmp_le X (tgt := 29) dX11_sortPart_18 (by decide) (fun hc_4 => ?_) (fun hc_4 => ?_)
      · have h := ift hc_4 h
        refine g_aload_n X dX11_sortPart_29 rfl 0 rfl ?_
        refine g_aload_n X dX11_sortPart_30 rfl 0 rfl ?_
        refine g_iload_n X dX11_sortPart_31 rfl 1 rfl ?_
        refine g_iload_n X dX11_sortPart_32 rfl 2 rfl ?_
        refine g_iload_n X dX11_sortPart_33 rfl 3 rfl ?_
        refine g_iconst X dX11_sortPart_34 (v := (0 : Int32)) (by decide) ?_
        obtain ⟨r_9, σ_10, hf_8, h⟩ := bnd2_some h
        refine g_callVI (AD := A) (As := [.int a1, .int a2, .int a3, .int (0 : Int32)]) X (ZC_ok _ _ _ _ _) (m_X11_sortsPart hf_8) (cwV 4 X.1.2.2.2.2 gX11_sortPart_X11_sortsPart rfl rfl rfl (by decide +kernel) ⟨Nat.le_of_ble_eq_true rfl, Nat.le_of_ble_eq_true rfl⟩) rfl mm0 (mE_0 cy A σ) rfl rfl (Nat.le_of_ble_eq_true rfl) ⟨by decide, by decide⟩ dX11_sortPart_35 ?_
        obtain ⟨r_12, σ_13, hf_11, h⟩ := bnd2_some h
        refine g_callVI (AD := A) (As := [.int r_9]) X (ZC_ok _ _ _ _ _) (m_X11_told hf_11) (cwV 1 X.1.2.2.2.2 gX11_sortPart_X11_told rfl rfl rfl (by decide +kernel) ⟨Nat.le_of_ble_eq_true rfl, Nat.le_of_ble_eq_true rfl⟩) rfl mm0 (mE_0 cy A σ_10) rfl rfl (Nat.le_of_ble_eq_true rfl) ⟨by decide, by decide⟩ dX11_sortPart_38 ?_
        cases h
        exact g_sub [] rfl K_7
      · have h := iff_ hc_4 h
        refine g_aload_n X dX11_sortPart_21 rfl 0 rfl ?_
        refine g_iconst X dX11_sortPart_22 (v := (2 : Int32)) (by decide) ?_
        obtain ⟨r_15, σ_16, hf_14, h⟩ := bnd2_some h
        refine g_callVI (AD := A) (As := [.int (2 : Int32)]) X (ZC_ok _ _ _ _ _) (m_X11_refuse hf_14) (cwV 1 X.1.2.2.2.2 gX11_sortPart_X11_refuse rfl rfl rfl (by decide +kernel) ⟨Nat.le_of_ble_eq_true rfl, Nat.le_of_ble_eq_true rfl⟩) rfl mm0 (mE_0 cy A σ) rfl rfl (Nat.le_of_ble_eq_true rfl) ⟨by decide, by decide⟩ dX11_sortPart_23 ?_
        refine g_goto X (tgt := 41) dX11_sortPart_26 (by decide) ?_
        cases h
        exact g_sub [] rfl K_7
    · have h := ift hc_3 h
      refine g_aload_n X dX11_sortPart_10 rfl 0 rfl ?_
      refine g_iconst X dX11_sortPart_11 (v := (1 : Int32)) (by decide) ?_
      obtain ⟨r_19, σ_20, hf_18, h⟩ := bnd2_some h
      refine g_callVI (AD := A) (As := [.int (1 : Int32)]) X (ZC_ok _ _ _ _ _) (m_X11_refuse hf_18) (cwV 1 X.1.2.2.2.2 gX11_sortPart_X11_refuse rfl rfl rfl (by decide +kernel) ⟨Nat.le_of_ble_eq_true rfl, Nat.le_of_ble_eq_true rfl⟩) rfl mm0 (mE_0 cy A σ) rfl rfl (Nat.le_of_ble_eq_true rfl) ⟨by decide, by decide⟩ dX11_sortPart_12 ?_
      cases h
      exact g_iret (Wf := mW cy A X9) X ⟨rfl, rfl⟩ dX11_sortPart_15
  exact K0
set_option maxHeartbeats 8000000 in
set_option maxRecDepth 100000 in
theorem m_X11_sortDown {σ : St} {a1 : Int32} {a2 : Int32} {a3 : Int32} {r : Int32} {σ' : St} (h : f_X11_sortDown a1 a2 a3 σ = some (r, σ')) : mI (ZC aK aO aS aV aT) D (cyT cy) l yX11_sortDown wsX11_sortDown ({ frames := 3, cells := 0, slots := 0, locals := 74 } : Room) (mW cy A X9) [.ref (A 0), .int a1, .int a2, .int a3] σ r σ' := by
  unfold f_X11_sortDown at h
  refine mI_of (cc := cX11_sortDown) (maxL := 4) (ret := (some .int)) (by decide) rfl (Nat.le_of_ble_eq_true rfl) (fun p e s m args below meth c B X => ?_)
  have K0 : gG p l e ({ frames := 3, cells := 0, slots := 0, locals := 74 } : Room) s m args below meth c D (cyT cy) B 4 (eI D (cyT cy) (mW cy A X9) B below args s r σ') (mW cy A X9 σ) 0 0 0 [(0, .ref (A 0)), (1, .int a1), (2, .int a2), (3, .int a3)] [] := by
    refine g_aload_n X dX11_sortDown_0 rfl 0 rfl ?_
    refine g_iload_n X dX11_sortDown_1 rfl 1 rfl ?_
    refine g_iload_n X dX11_sortDown_2 rfl 2 rfl ?_
    refine g_iload_n X dX11_sortDown_3 rfl 3 rfl ?_
    obtain ⟨r_2, hf_1, h⟩ := bnd_some h
    refine g_callVI (AD := A) (As := [.int a1, .int a2, .int a3]) X (ZC_ok _ _ _ _ _) (m_X11_isPart hf_1) (cwV 3 X.1.2.2.2.2 gX11_sortDown_X11_isPart rfl rfl rfl (by decide +kernel) ⟨Nat.le_of_ble_eq_true rfl, Nat.le_of_ble_eq_true rfl⟩) rfl mm0 (mE_0 cy A σ) rfl rfl (Nat.le_of_ble_eq_true rfl) ⟨by decide, by decide⟩ dX11_sortDown_4 ?_
    refine g_if_ne X (tgt := 16) dX11_sortDown_7 (by decide) (fun hc_3 => ?_) (fun hc_3 => ?_)
    · have h := iff_ hc_3 h
      refine g_iload_n X dX11_sortDown_16 rfl 2 rfl ?_
      refine g_iload_n X dX11_sortDown_17 rfl 3 rfl ?_
      obtain ⟨v_5, σ_6, hj_21, h⟩ := bnd2_some h
      have K_7 : gG p l e ({ frames := 3, cells := 0, slots := 0, locals := 74 } : Room) s m args below meth c D (cyT cy) B 4 (eI D (cyT cy) (mW cy A X9) B below args s r σ') (mW cy A X9 σ_6) 0 0 49 [] [.int v_5] := by
        cases h
        exact g_iret (Wf := mW cy A X9) X ⟨rfl, rfl⟩ dX11_sortDown_49
      have h := hj_21
      clear hj_21
      refine g_icmp_gt X (tgt := 29) dX11_sortDown_18 (by decide) (fun hc_4 => ?_) (fun hc_4 => ?_)
      · have h := ift hc_4 h
        refine g_aload_n X dX11_sortDown_29 rfl 0 rfl ?_
        refine g_iconst X dX11_sortDown_30 (v := (2 : Int32)) (by decide) ?_
        obtain ⟨r_9, σ_10, hf_8, h⟩ := bnd2_some h
        refine g_callVI (AD := A) (As := [.int (2 : Int32)]) X (ZC_ok _ _ _ _ _) (m_X11_refuse hf_8) (cwV 1 X.1.2.2.2.2 gX11_sortDown_X11_refuse rfl rfl rfl (by decide +kernel) ⟨Nat.le_of_ble_eq_true rfl, Nat.le_of_ble_eq_true rfl⟩) rfl mm0 (mE_0 cy A σ) rfl rfl (Nat.le_of_ble_eq_true rfl) ⟨by decide, by decide⟩ dX11_sortDown_31 ?_
        refine g_goto X (tgt := 49) dX11_sortDown_34 (by decide) ?_
        cases h
        exact g_sub [] rfl K_7
      · have h := iff_ hc_4 h
        refine g_iload_n X dX11_sortDown_21 rfl 3 rfl ?_
        refine g_iload_n X dX11_sortDown_22 rfl 2 rfl ?_
        refine g_isub X dX11_sortDown_23 ?_
        refine g_bipush X dX11_sortDown_24 (v := (31 : Int32)) (by decide) ?_
        refine g_icmp_le X (tgt := 37) dX11_sortDown_26 (by decide) (fun hc_11 => ?_) (fun hc_11 => ?_)
        · have h := ift hc_11 h
          refine g_aload_n X dX11_sortDown_37 rfl 0 rfl ?_
          refine g_aload_n X dX11_sortDown_38 rfl 0 rfl ?_
          refine g_iload_n X dX11_sortDown_39 rfl 1 rfl ?_
          refine g_iload_n X dX11_sortDown_40 rfl 2 rfl ?_
          refine g_iload_n X dX11_sortDown_41 rfl 3 rfl ?_
          refine g_iconst X dX11_sortDown_42 (v := (1 : Int32)) (by decide) ?_
          obtain ⟨r_13, σ_14, hf_12, h⟩ := bnd2_some h
          refine g_callVI (AD := A) (As := [.int a1, .int a2, .int a3, .int (1 : Int32)]) X (ZC_ok _ _ _ _ _) (m_X11_sortsPart hf_12) (cwV 4 X.1.2.2.2.2 gX11_sortDown_X11_sortsPart rfl rfl rfl (by decide +kernel) ⟨Nat.le_of_ble_eq_true rfl, Nat.le_of_ble_eq_true rfl⟩) rfl mm0 (mE_0 cy A σ) rfl rfl (Nat.le_of_ble_eq_true rfl) ⟨by decide, by decide⟩ dX11_sortDown_43 ?_
          obtain ⟨r_16, σ_17, hf_15, h⟩ := bnd2_some h
          refine g_callVI (AD := A) (As := [.int r_13]) X (ZC_ok _ _ _ _ _) (m_X11_told hf_15) (cwV 1 X.1.2.2.2.2 gX11_sortDown_X11_told rfl rfl rfl (by decide +kernel) ⟨Nat.le_of_ble_eq_true rfl, Nat.le_of_ble_eq_true rfl⟩) rfl mm0 (mE_0 cy A σ_14) rfl rfl (Nat.le_of_ble_eq_true rfl) ⟨by decide, by decide⟩ dX11_sortDown_46 ?_
          cases h
          exact g_sub [] rfl K_7
        · have h := iff_ hc_11 h
          refine g_aload_n X dX11_sortDown_29 rfl 0 rfl ?_
          refine g_iconst X dX11_sortDown_30 (v := (2 : Int32)) (by decide) ?_
          obtain ⟨r_19, σ_20, hf_18, h⟩ := bnd2_some h
          refine g_callVI (AD := A) (As := [.int (2 : Int32)]) X (ZC_ok _ _ _ _ _) (m_X11_refuse hf_18) (cwV 1 X.1.2.2.2.2 gX11_sortDown_X11_refuse rfl rfl rfl (by decide +kernel) ⟨Nat.le_of_ble_eq_true rfl, Nat.le_of_ble_eq_true rfl⟩) rfl mm0 (mE_0 cy A σ) rfl rfl (Nat.le_of_ble_eq_true rfl) ⟨by decide, by decide⟩ dX11_sortDown_31 ?_
          refine g_goto X (tgt := 49) dX11_sortDown_34 (by decide) ?_
          cases h
          exact g_sub [] rfl K_7
    · have h := ift hc_3 h
      refine g_aload_n X dX11_sortDown_10 rfl 0 rfl ?_
      refine g_iconst X dX11_sortDown_11 (v := (1 : Int32)) (by decide) ?_
      obtain ⟨r_23, σ_24, hf_22, h⟩ := bnd2_some h
      refine g_callVI (AD := A) (As := [.int (1 : Int32)]) X (ZC_ok _ _ _ _ _) (m_X11_refuse hf_22) (cwV 1 X.1.2.2.2.2 gX11_sortDown_X11_refuse rfl rfl rfl (by decide +kernel) ⟨Nat.le_of_ble_eq_true rfl, Nat.le_of_ble_eq_true rfl⟩) rfl mm0 (mE_0 cy A σ) rfl rfl (Nat.le_of_ble_eq_true rfl) ⟨by decide, by decide⟩ dX11_sortDown_12 ?_
      cases h
      exact g_iret (Wf := mW cy A X9) X ⟨rfl, rfl⟩ dX11_sortDown_15
  exact K0
end MV
