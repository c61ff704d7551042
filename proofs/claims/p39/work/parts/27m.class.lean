section MV
variable {D : va_G} {cy : Nat → ClassId} {A aK aO aS aV aT : Nat → Nat} {l : Launch} {X9 : va_W}
set_option maxHeartbeats 8000000 in
set_option maxRecDepth 100000 in
theorem m_X10_deal {σ : St} {a1 : Int32} {a2 : Int32} {r : String ⊕ Int32} {σ' : St} (hl : l.stackTraces = false) (h : f_X10_deal a1 a2 σ = some (r, σ')) : xI (ZC aK aO aS aV aT) D (cyT cy) l yX10_deal wsX10_deal ({ frames := 7, cells := thrC r, slots := thrS r, locals := 151 } : Room) (cW cy A aK X9) [.ref (A 0), .int a1, .int a2] σ r σ' (thrC r) (thrS r) := by
  unfold f_X10_deal at h
  refine xI_of (cc := cX10_deal) (maxL := 8) (ret := (some .int)) (by decide) rfl (Nat.le_of_ble_eq_true rfl) (fun p e s m args below meth c B X hx0 => ?_)
  have hin6 : ∀ w ∈ wsX60, w ∈ wsX10_deal := by decide +kernel
  have lk0 : Cond.fieldLink RX10 120 "Cardcabinet$Row" "size" "I" ∈ wsX10_deal := by decide +kernel
  have lk1 : Cond.fieldLink RX10 188 "Cardcabinet$Row" "marks" "[I" ∈ wsX10_deal := by decide +kernel
  have K0 : gG p l e ({ frames := 7, cells := thrC r, slots := thrS r, locals := 151 } : Room) s m args below meth c D (cyT cy) B 8 (xeI D (cyT cy) (cW cy A aK X9) B below args s r σ' (thrC r) (thrS r)) (cW cy A aK X9 σ) 0 0 0 [(0, .ref (A 0)), (1, .int a1), (2, .int a2)] [] := by
    refine g_aload_n X dX10_deal_0 rfl 0 rfl ?_
    refine g_iload_n X dX10_deal_1 rfl 1 rfl ?_
    rcases bndX_some h with ⟨E_3, hf_1, h⟩ | ⟨r_2, hf_1, h⟩
    · cases h
      exact g_xVR_thr (AD := A) (As := [.int a1]) X (ZC_ok _ _ _ _ _) hx0 (m_X10_rowAt hl hf_1) (cwV 1 X.1.2.2.2.2 gX10_deal_X10_rowAt rfl rfl rfl (by decide +kernel) ⟨Nat.le_of_ble_eq_true rfl, Nat.le_of_ble_eq_true rfl⟩) rfl cm0 (cE_0 cy A aK _) rfl rfl (Nat.le_of_ble_eq_true rfl) ⟨thrC_l (β := Int32) _ "", thrS_l (β := Int32) _ ""⟩ dX10_deal_2 rfl rfl (thrC_l (β := Int32) _ "") (thrS_l (β := Int32) _ "")
    refine g_xVR_ret (AD := A) (As := [.int a1]) X (ZC_ok _ _ _ _ _) (m_X10_rowAt hl hf_1) (cwV 1 X.1.2.2.2.2 gX10_deal_X10_rowAt rfl rfl rfl (by decide +kernel) ⟨Nat.le_of_ble_eq_true rfl, Nat.le_of_ble_eq_true rfl⟩) rfl cm0 (cE_0 cy A aK σ) rfl rfl (Nat.le_of_ble_eq_true rfl) ⟨thrC_r _ _, thrS_r _ _⟩ dX10_deal_2 (k' := 0) (n' := 0) (thrC_r _ _) (thrS_r _ _) ?_
    refine g_astore_n X dX10_deal_5 rfl (by decide) (lv' := [(3, .ref (A r_2)), (0, .ref (A 0)), (1, .int a1), (2, .int a2)]) rfl ?_
    refine g_aload_n X dX10_deal_6 rfl 1 rfl ?_
    refine g_iload_n X dX10_deal_7 rfl 3 rfl ?_
    rcases bndX_some h with ⟨E_6, hf_4, h⟩ | ⟨r_5, hf_4, h⟩
    · cases h
      exact g_xVR_thr (AD := A) (As := [.int a2]) X (ZC_ok _ _ _ _ _) hx0 (m_X10_rowAt hl hf_4) (cwV 1 X.1.2.2.2.2 gX10_deal_X10_rowAt rfl rfl rfl (by decide +kernel) ⟨Nat.le_of_ble_eq_true rfl, Nat.le_of_ble_eq_true rfl⟩) rfl cm0 (cE_0 cy A aK _) rfl rfl (Nat.le_of_ble_eq_true rfl) ⟨thrC_l (β := Int32) _ "", thrS_l (β := Int32) _ ""⟩ dX10_deal_8 rfl rfl (thrC_l (β := Int32) _ "") (thrS_l (β := Int32) _ "")
    refine g_xVR_ret (AD := A) (As := [.int a2]) X (ZC_ok _ _ _ _ _) (m_X10_rowAt hl hf_4) (cwV 1 X.1.2.2.2.2 gX10_deal_X10_rowAt rfl rfl rfl (by decide +kernel) ⟨Nat.le_of_ble_eq_true rfl, Nat.le_of_ble_eq_true rfl⟩) rfl cm0 (cE_0 cy A aK σ) rfl rfl (Nat.le_of_ble_eq_true rfl) ⟨thrC_r _ _, thrS_r _ _⟩ dX10_deal_8 (k' := 0) (n' := 0) (thrC_r _ _) (thrS_r _ _) ?_
    refine g_astore X dX10_deal_11 (by decide) (lv' := [(4, .ref (A r_5)), (3, .ref (A r_2)), (0, .ref (A 0)), (1, .int a1), (2, .int a2)]) rfl ?_
    refine g_iload_n X dX10_deal_13 rfl 3 rfl ?_
    refine g_iload_n X dX10_deal_14 rfl 4 rfl ?_
    rcases bndX_some h with ⟨E_9, hf_7, h⟩ | ⟨r_8, hf_7, h⟩
    · cases h
      exact g_xSV_thr (AD := A) (As := [.int a1, .int a2]) X (ZC_ok _ _ _ _ _) hx0 (m_X10_needUnlikeRows hl hf_7) (va_cwS 2 X.1.2.2.2.2 gX10_deal_X10_needUnlikeRows rfl rfl rfl (by decide +kernel) ⟨Nat.le_of_ble_eq_true rfl, Nat.le_of_ble_eq_true rfl⟩) rfl rfl (Nat.le_of_ble_eq_true rfl) ⟨thrC_l (β := Int32) _ "", thrS_l (β := Int32) _ ""⟩ dX10_deal_15 rfl rfl (thrC_l (β := Int32) _ "") (thrS_l (β := Int32) _ "")
    refine g_xSV_ret (AD := A) (As := [.int a1, .int a2]) X (ZC_ok _ _ _ _ _) (m_X10_needUnlikeRows hl hf_7) (va_cwS 2 X.1.2.2.2.2 gX10_deal_X10_needUnlikeRows rfl rfl rfl (by decide +kernel) ⟨Nat.le_of_ble_eq_true rfl, Nat.le_of_ble_eq_true rfl⟩) rfl rfl (Nat.le_of_ble_eq_true rfl) ⟨thrC_r _ _, thrS_r _ _⟩ dX10_deal_15 (k' := 0) (n' := 0) (thrC_r _ _) (thrS_r _ _) ?_
    refine g_aload_n X dX10_deal_18 rfl 1 rfl ?_
    refine g_get X (AD := A) ((f_X10_rowAt_row hf_1)).mem (cE_row cy A aK σ (f_X10_rowAt_row hf_1)) hin6 rfl 1 (by decide) lk0 (fun _ h9 => h9) rfl dX10_deal_19 ?_
    refine g_iconst X dX10_deal_22 (v := (2 : Int32)) (by decide) ?_
    refine g_idiv X dX10_deal_23 (by decide) ?_
    refine g_istore X dX10_deal_24 (by decide) (lv' := [(5, .int ((gi σ (8 * r_2 + 1)) / (2 : Int32))), (4, .ref (A r_5)), (3, .ref (A r_2)), (0, .ref (A 0)), (1, .int a1), (2, .int a2)]) rfl ?_
    refine g_aload X dX10_deal_26 1 rfl ?_
    refine g_iload X dX10_deal_28 0 rfl ?_
    rcases bndX_some h with ⟨E_12, hf_10, h⟩ | ⟨r_11, hf_10, h⟩
    · cases h
      exact g_xSV_thr (AD := A) (As := [.ref (A r_5), .int ((gi σ (8 * r_2 + 1)) / (2 : Int32))]) X (ZC_ok _ _ _ _ _) hx0 (m_X10_needRoom (f_X10_rowAt_row hf_4) hl hf_10) (va_cwS 2 X.1.2.2.2.2 gX10_deal_X10_needRoom rfl rfl rfl (by decide +kernel) ⟨Nat.le_of_ble_eq_true rfl, Nat.le_of_ble_eq_true rfl⟩) rfl rfl (Nat.le_of_ble_eq_true rfl) ⟨thrC_l (β := Int32) _ "", thrS_l (β := Int32) _ ""⟩ dX10_deal_30 rfl rfl (thrC_l (β := Int32) _ "") (thrS_l (β := Int32) _ "")
    refine g_xSV_ret (AD := A) (As := [.ref (A r_5), .int ((gi σ (8 * r_2 + 1)) / (2 : Int32))]) X (ZC_ok _ _ _ _ _) (m_X10_needRoom (f_X10_rowAt_row hf_4) hl hf_10) (va_cwS 2 X.1.2.2.2.2 gX10_deal_X10_needRoom rfl rfl rfl (by decide +kernel) ⟨Nat.le_of_ble_eq_true rfl, Nat.le_of_ble_eq_true rfl⟩) rfl rfl (Nat.le_of_ble_eq_true rfl) ⟨thrC_r _ _, thrS_r _ _⟩ dX10_deal_30 (k' := 0) (n' := 0) (thrC_r _ _) (thrS_r _ _) ?_
    refine g_iconst X dX10_deal_33 (v := (0 : Int32)) (by decide) ?_
    refine g_istore X dX10_deal_34 (by decide) (lv' := [(6, .int (0 : Int32)), (5, .int ((gi σ (8 * r_2 + 1)) / (2 : Int32))), (4, .ref (A r_5)), (3, .ref (A r_2)), (0, .ref (A 0)), (1, .int a1), (2, .int a2)]) rfl ?_
    refine g_iconst X dX10_deal_36 (v := (0 : Int32)) (by decide) ?_
    refine g_istore X dX10_deal_37 (by decide) (lv' := [(7, .int (0 : Int32)), (6, .int (0 : Int32)), (5, .int ((gi σ (8 * r_2 + 1)) / (2 : Int32))), (4, .ref (A r_5)), (3, .ref (A r_2)), (0, .ref (A 0)), (1, .int a1), (2, .int a2)]) rfl ?_
    have L_25 : ∀ (c_13 : Nat) (hp_14 : isRow c_13) (c_15 : Nat) (hp_16 : isRow c_15) (c_17 : Int32) (n_21 : Nat) (v_18 : Int32) (v_19 : Int32) (σ_20 : St) (o_27 : Int32) (σ_26 : St), f_X10_deal_L39 c_13 c_15 n_21 v_18 v_19 σ_20 = some (o_27, σ_26) → gG p l e ({ frames := 7, cells := thrC r, slots := thrS r, locals := 151 } : Room) s m args below meth c D (cyT cy) B 8 (xeI D (cyT cy) (cW cy A aK X9) B below args s r σ' (thrC r) (thrS r)) (cW cy A aK X9 σ_26) 0 0 94 [(3, .ref (A c_13)), (5, .int c_17), (6, .int o_27)] [] → gG p l e ({ frames := 7, cells := thrC r, slots := thrS r, locals := 151 } : Room) s m args below meth c D (cyT cy) B 8 (xeI D (cyT cy) (cW cy A aK X9) B below args s r σ' (thrC r) (thrS r)) (cW cy A aK X9 σ_20) 0 0 39 [(3, .ref (A c_13)), (4, .ref (A c_15)), (5, .int c_17), (6, .int v_18), (7, .int v_19)] [] := by
      intro c_13 hp_14 c_15 hp_16 c_17 n_21
      induction n_21 with
      | zero =>
        intro v_18 v_19 σ_20 o_27 σ_26 h K_23
        rw [f_X10_deal_L39] at h
        cases h
      | succ n_21 ih_22 =>
        intro v_18 v_19 σ_20 o_27 σ_26 h K_23
        rw [f_X10_deal_L39] at h
        refine g_iload X dX10_deal_39 4 rfl ?_
        refine g_aload_n X dX10_deal_41 rfl 0 rfl ?_
        refine g_get X (AD := A) (hp_14).mem (cE_row cy A aK σ_20 hp_14) hin6 rfl 1 (by decide) lk0 (fun _ h9 => h9) rfl dX10_deal_42 ?_
        refine g_icmp_ge X (tgt := 94) dX10_deal_45 (by decide) (fun hc_28 => ?_) (fun hc_28 => ?_)
        · have h := ift hc_28 h
          cases h
          exact g_sub [0, 2, 3] rfl K_23
        · have h := iff_ hc_28 h
          refine g_iload X dX10_deal_48 4 rfl ?_
          refine g_iconst X dX10_deal_50 (v := (2 : Int32)) (by decide) ?_
          refine g_irem X dX10_deal_51 (by decide) ?_
          refine g_iconst X dX10_deal_52 (v := (1 : Int32)) (by decide) ?_
          obtain ⟨v_30, σ_31, hj_40, h⟩ := bnd2_some h
          have K_32 : gG p l e ({ frames := 7, cells := thrC r, slots := thrS r, locals := 151 } : Room) s m args below meth c D (cyT cy) B 8 (xeI D (cyT cy) (cW cy A aK X9) B below args s r σ' (thrC r) (thrS r)) (cW cy A aK X9 σ_31) 0 0 88 [(3, .ref (A c_13)), (4, .ref (A c_15)), (5, .int c_17), (6, .int v_30), (7, .int v_19)] [] := by
            refine g_iinc X dX10_deal_88 4 rfl (v := v_19 + (1 : Int32)) rfl (by decide) (lv' := [(7, .int (v_19 + (1 : Int32))), (3, .ref (A c_13)), (4, .ref (A c_15)), (5, .int c_17), (6, .int v_30)]) rfl ?_
            refine g_goto X (tgt := 39) dX10_deal_91 (by decide) ?_
            exact g_sub [1, 2, 3, 4, 0] rfl (ih_22 _ _ _ _ _ h K_23)
          have h := hj_40
          clear hj_40
          refine g_icmp_ne X (tgt := 71) dX10_deal_53 (by decide) (fun hc_29 => ?_) (fun hc_29 => ?_)
          · have h := iff_ hc_29 h
            refine g_aload_n X dX10_deal_71 rfl 0 rfl ?_
            refine g_get X (AD := A) (hp_14).mem (cE_row cy A aK σ_20 hp_14) hin6 rfl 0 (by decide) lk1 (fun _ h9 => h9) rfl dX10_deal_72 ?_
            refine g_iload X dX10_deal_75 3 rfl ?_
            refine g_aload_n X dX10_deal_77 rfl 0 rfl ?_
            refine g_get X (AD := A) (hp_14).mem (cE_row cy A aK σ_20 hp_14) hin6 rfl 0 (by decide) lk1 (fun _ h9 => h9) rfl dX10_deal_78 ?_
            refine g_iload X dX10_deal_81 4 rfl ?_
            obtain ⟨hg_33, h⟩ := grd_some h
            refine g_iald X (AD := A) ((isRow.mk hp_14)).mem (cE_mk cy A aK σ_20 (isRow.mk hp_14)) 0 rfl hg_33 dX10_deal_83 ?_
            obtain ⟨hg_34, h⟩ := grd_some h
            refine g_iast X (AD := A) (σ' := sr σ_20 (c_13 + 16) (upd (gr σ_20 (c_13 + 16)) v_18.toNatClampNeg (gr σ_20 (c_13 + 16) v_19.toNatClampNeg))) ((isRow.mk hp_14)).mem (cE_mk cy A aK σ_20 (isRow.mk hp_14)) 0 rfl hg_34 (st_mk cy A aK σ_20 (upd (gr σ_20 (c_13 + 16)) v_18.toNatClampNeg (gr σ_20 (c_13 + 16) v_19.toNatClampNeg)) (isRow.mk hp_14)) dX10_deal_84 ?_
            obtain ⟨σ_35, e_36, h⟩ := bnd_some h
            have e_36 := Option.some.inj e_36
            rw [e_36]
            refine g_iinc X dX10_deal_85 3 rfl (v := v_18 + (1 : Int32)) rfl (by decide) (lv' := [(6, .int (v_18 + (1 : Int32))), (3, .ref (A c_13)), (4, .ref (A c_15)), (5, .int c_17), (7, .int v_19)]) rfl ?_
            cases h
            exact g_sub [1, 2, 3, 0, 4] rfl K_32
          · have h := ift hc_29 h
            refine g_aload X dX10_deal_56 1 rfl ?_
            refine g_aload_n X dX10_deal_58 rfl 0 rfl ?_
            refine g_get X (AD := A) (hp_14).mem (cE_row cy A aK σ_20 hp_14) hin6 rfl 0 (by decide) lk1 (fun _ h9 => h9) rfl dX10_deal_59 ?_
            refine g_iload X dX10_deal_62 4 rfl ?_
            obtain ⟨hg_37, h⟩ := grd_some h
            refine g_iald X (AD := A) ((isRow.mk hp_14)).mem (cE_mk cy A aK σ_20 (isRow.mk hp_14)) 0 rfl hg_37 dX10_deal_64 ?_
            obtain ⟨σ_39, hf_38, h⟩ := bnd_some h
            refine g_callVV (AD := A) (As := [.int (gr σ_20 (c_13 + 16) v_19.toNatClampNeg)]) X (ZC_ok _ _ _ _ _) (m_X6_append hp_16 hf_38) (cwV 1 X.1.2.2.2.2 gX10_deal_X6_append rfl rfl rfl (by decide +kernel) ⟨Nat.le_of_ble_eq_true rfl, Nat.le_of_ble_eq_true rfl⟩) rfl (hp_16).mem (cE_row cy A aK σ_20 hp_16) rfl rfl (Nat.le_of_ble_eq_true rfl) ⟨Nat.zero_le _, Nat.zero_le _⟩ dX10_deal_65 ?_
            refine g_goto X (tgt := 88) dX10_deal_68 (by decide) ?_
            cases h
            exact g_sub [0, 1, 2, 3, 4] rfl K_32
    obtain ⟨o_27, σ_26, hl_41, h⟩ := bnd2_some h
    refine g_sub [4, 3, 2, 1, 0] rfl (L_25 r_2 (f_X10_rowAt_row hf_1) r_5 (f_X10_rowAt_row hf_4) ((gi σ (8 * r_2 + 1)) / (2 : Int32)) FU (0 : Int32) (0 : Int32) σ o_27 σ_26 hl_41 ?_)
    refine g_aload_n X dX10_deal_94 rfl 0 rfl ?_
    refine g_iload X dX10_deal_95 2 rfl ?_
    refine g_put X (AD := A) (ty := .int) (v := .int o_27) (σ' := si σ_26 (8 * r_2 + 1) o_27) ((f_X10_rowAt_row hf_1)).mem (cE_row cy A aK σ_26 (f_X10_rowAt_row hf_1)) hin6 rfl tyX6 tyX6_ok nmX6 1 (by decide) lk0 (fun _ h9 => h9) rfl (by decide +kernel) rfl rfl (Nat.le_of_ble_eq_true rfl) (sf_row cy A aK σ_26 o_27 (f_X10_rowAt_row hf_1)) dX10_deal_97 ?_
    refine g_iload X dX10_deal_100 1 rfl ?_
    cases h
    exact g_xret (g_iret (Wf := cW cy A aK X9) X ⟨rfl, rfl⟩ dX10_deal_102)
  exact K0
set_option maxHeartbeats 8000000 in
set_option maxRecDepth 100000 in
theorem m_X10_turn {σ : St} {a1 : Int32} {r : String ⊕ Int32} {σ' : St} (hl : l.stackTraces = false) (h : f_X10_turn a1 σ = some (r, σ')) : xI (ZC aK aO aS aV aT) D (cyT cy) l yX10_turn wsX10_turn ({ frames := 7, cells := thrC r, slots := thrS r, locals := 151 } : Room) (cW cy A aK X9) [.ref (A 0), .int a1] σ r σ' (thrC r) (thrS r) := by
  unfold f_X10_turn at h
  refine xI_of (cc := cX10_turn) (maxL := 3) (ret := (some .int)) (by decide) rfl (Nat.le_of_ble_eq_true rfl) (fun p e s m args below meth c B X hx0 => ?_)
  have hin6 : ∀ w ∈ wsX60, w ∈ wsX10_turn := by decide +kernel
  have lk0 : Cond.fieldLink RX10 120 "Cardcabinet$Row" "size" "I" ∈ wsX10_turn := by decide +kernel
  have K0 : gG p l e ({ frames := 7, cells := thrC r, slots := thrS r, locals := 151 } : Room) s m args below meth c D (cyT cy) B 3 (xeI D (cyT cy) (cW cy A aK X9) B below args s r σ' (thrC r) (thrS r)) (cW cy A aK X9 σ) 0 0 0 [(0, .ref (A 0)), (1, .int a1)] [] := by
    refine g_aload_n X dX10_turn_0 rfl 0 rfl ?_
    refine g_iload_n X dX10_turn_1 rfl 1 rfl ?_
    rcases bndX_some h with ⟨E_3, hf_1, h⟩ | ⟨r_2, hf_1, h⟩
    · cases h
      exact g_xVR_thr (AD := A) (As := [.int a1]) X (ZC_ok _ _ _ _ _) hx0 (m_X10_rowAt hl hf_1) (cwV 1 X.1.2.2.2.2 gX10_turn_X10_rowAt rfl rfl rfl (by decide +kernel) ⟨Nat.le_of_ble_eq_true rfl, Nat.le_of_ble_eq_true rfl⟩) rfl cm0 (cE_0 cy A aK _) rfl rfl (Nat.le_of_ble_eq_true rfl) ⟨thrC_l (β := Int32) _ "", thrS_l (β := Int32) _ ""⟩ dX10_turn_2 rfl rfl (thrC_l (β := Int32) _ "") (thrS_l (β := Int32) _ "")
    refine g_xVR_ret (AD := A) (As := [.int a1]) X (ZC_ok _ _ _ _ _) (m_X10_rowAt hl hf_1) (cwV 1 X.1.2.2.2.2 gX10_turn_X10_rowAt rfl rfl rfl (by decide +kernel) ⟨Nat.le_of_ble_eq_true rfl, Nat.le_of_ble_eq_true rfl⟩) rfl cm0 (cE_0 cy A aK σ) rfl rfl (Nat.le_of_ble_eq_true rfl) ⟨thrC_r _ _, thrS_r _ _⟩ dX10_turn_2 (k' := 0) (n' := 0) (thrC_r _ _) (thrS_r _ _) ?_
    refine g_astore_n X dX10_turn_5 rfl (by decide) (lv' := [(2, .ref (A r_2)), (0, .ref (A 0)), (1, .int a1)]) rfl ?_
    refine g_aload_n X dX10_turn_6 rfl 0 rfl ?_
    obtain ⟨σ_5, hf_4, h⟩ := bnd_some h
    refine g_callVV (AD := A) (As := []) X (ZC_ok _ _ _ _ _) (m_X6_reverse (f_X10_rowAt_row hf_1) hf_4) (cwV 0 X.1.2.2.2.2 gX10_turn_X6_reverse rfl rfl rfl (by decide +kernel) ⟨Nat.le_of_ble_eq_true rfl, Nat.le_of_ble_eq_true rfl⟩) rfl ((f_X10_rowAt_row hf_1)).mem (cE_row cy A aK σ (f_X10_rowAt_row hf_1)) rfl rfl (Nat.le_of_ble_eq_true rfl) ⟨Nat.zero_le _, Nat.zero_le _⟩ dX10_turn_7 ?_
    refine g_aload_n X dX10_turn_10 rfl 0 rfl ?_
    refine g_get X (AD := A) ((f_X10_rowAt_row hf_1)).mem (cE_row cy A aK σ_5 (f_X10_rowAt_row hf_1)) hin6 rfl 1 (by decide) lk0 (fun _ h9 => h9) rfl dX10_turn_11 ?_
    cases h
    exact g_xret (g_iret (Wf := cW cy A aK X9) X ⟨rfl, rfl⟩ dX10_turn_14)
  exact K0
set_option maxHeartbeats 8000000 in
set_option maxRecDepth 100000 in
theorem m_X10_needPlace {σ : St} {a1 : Nat} {a2 : Int32} {r : String ⊕ Unit} (h1 : isRow a1) (hl : l.stackTraces = false) (h : f_X10_needPlace a1 a2 σ = some r) : xV (ZC aK aO aS aV aT) D (cyT cy) l yX10_needPlace wsX10_needPlace ({ frames := 6, cells := thrC r, slots := thrS r, locals := 130 } : Room) (cW cy A aK X9) [.ref (A a1), .int a2] σ r σ (thrC r) (thrS r) := by
  unfold f_X10_needPlace at h
  refine xV_of (cc := cX10_needPlace) (maxL := 2) (ret := none) (by decide) rfl (Nat.le_of_ble_eq_true rfl) (fun p e s m args below meth c B X hx0 => ?_)
  have hin6 : ∀ w ∈ wsX60, w ∈ wsX10_needPlace := by decide +kernel
  have lk0 : Cond.classLink RX10 123 "java/lang/IndexOutOfBoundsException" ∈ wsX10_needPlace := by decide +kernel
  have lk1 : Cond.initialized "java/lang/IndexOutOfBoundsException" ∈ wsX10_needPlace := by decide +kernel
  have lk2 : ∀ w ∈ (vx_atS RX10 127 "java/lang/IndexOutOfBoundsException" ["java/lang/RuntimeException", "java/lang/Exception"]).filter goodWord, w ∈ wsX10_needPlace := by decide +kernel
  have lk3 : Cond.fieldLink RX10 120 "Cardcabinet$Row" "size" "I" ∈ wsX10_needPlace := by decide +kernel
  have K0 : gG p l e ({ frames := 6, cells := thrC r, slots := thrS r, locals := 130 } : Room) s m args below meth c D (cyT cy) B 2 (xeV D (cyT cy) (cW cy A aK X9) B below args s r σ (thrC r) (thrS r)) (cW cy A aK X9 σ) 0 0 0 [(0, .ref (A a1)), (1, .int a2)] [] := by
    refine g_iload_n X dX10_needPlace_0 rfl 1 rfl ?_
    refine g_if_lt X (tgt := 12) dX10_needPlace_1 (by decide) (fun hc_1 => ?_) (fun hc_1 => ?_)
    · have h := ift hc_1 h
      cases h
      exact g_thr_IOOBE (AD := A) X hl hx0 (is9 := 125) (tx := "no such place") (by decide) lk0 lk1 lk2 dX10_needPlace_12 dX10_needPlace_15 dX10_needPlace_16 dX10_needPlace_18 dX10_needPlace_21 (by decide) (Nat.le_of_ble_eq_true rfl) ⟨thrC_t (β := Int32) "", thrS_t (β := Int32) ""⟩ rfl rfl (thrC_t (β := Int32) "") (thrS_t (β := Int32) "")
    · have h := iff_ hc_1 h
      refine g_iload_n X dX10_needPlace_4 rfl 1 rfl ?_
      refine g_aload_n X dX10_needPlace_5 rfl 0 rfl ?_
      refine g_get X (AD := A) (h1).mem (cE_row cy A aK σ h1) hin6 rfl 1 (by decide) lk3 (fun _ h9 => h9) rfl dX10_needPlace_6 ?_
      refine g_icmp_lt X (tgt := 22) dX10_needPlace_9 (by decide) (fun hc_2 => ?_) (fun hc_2 => ?_)
      · have h := ift hc_2 h
        cases h
        exact g_xret (g_vret (Wf := cW cy A aK X9) X ⟨rfl, rfl⟩ dX10_needPlace_22)
      · have h := iff_ hc_2 h
        cases h
        exact g_thr_IOOBE (AD := A) X hl hx0 (is9 := 125) (tx := "no such place") (by decide) lk0 lk1 lk2 dX10_needPlace_12 dX10_needPlace_15 dX10_needPlace_16 dX10_needPlace_18 dX10_needPlace_21 (by decide) (Nat.le_of_ble_eq_true rfl) ⟨thrC_t (β := Int32) "", thrS_t (β := Int32) ""⟩ rfl rfl (thrC_t (β := Int32) "") (thrS_t (β := Int32) "")
  exact K0
set_option maxHeartbeats 8000000 in
set_option maxRecDepth 100000 in
theorem m_X10_move {σ : St} {a1 : Int32} {a2 : Int32} {a3 : Int32} {r : String ⊕ Int32} {σ' : St} (hl : l.stackTraces = false) (h : f_X10_move a1 a2 a3 σ = some (r, σ')) : xI (ZC aK aO aS aV aT) D (cyT cy) l yX10_move wsX10_move ({ frames := 7, cells := thrC r, slots := thrS r, locals := 151 } : Room) (cW cy A aK X9) [.ref (A 0), .int a1, .int a2, .int a3] σ r σ' (thrC r) (thrS r) := by
  unfold f_X10_move at h
  refine xI_of (cc := cX10_move) (maxL := 6) (ret := (some .int)) (by decide) rfl (Nat.le_of_ble_eq_true rfl) (fun p e s m args below meth c B X hx0 => ?_)
  have K0 : gG p l e ({ frames := 7, cells := thrC r, slots := thrS r, locals := 151 } : Room) s m args below meth c D (cyT cy) B 6 (xeI D (cyT cy) (cW cy A aK X9) B below args s r σ' (thrC r) (thrS r)) (cW cy A aK X9 σ) 0 0 0 [(0, .ref (A 0)), (1, .int a1), (2, .int a2), (3, .int a3)] [] := by
    refine g_aload_n X dX10_move_0 rfl 0 rfl ?_
    refine g_iload_n X dX10_move_1 rfl 1 rfl ?_
    rcases bndX_some h with ⟨E_3, hf_1, h⟩ | ⟨r_2, hf_1, h⟩
    · cases h
      exact g_xVR_thr (AD := A) (As := [.int a1]) X (ZC_ok _ _ _ _ _) hx0 (m_X10_rowAt hl hf_1) (cwV 1 X.1.2.2.2.2 gX10_move_X10_rowAt rfl rfl rfl (by decide +kernel) ⟨Nat.le_of_ble_eq_true rfl, Nat.le_of_ble_eq_true rfl⟩) rfl cm0 (cE_0 cy A aK _) rfl rfl (Nat.le_of_ble_eq_true rfl) ⟨thrC_l (β := Int32) _ "", thrS_l (β := Int32) _ ""⟩ dX10_move_2 rfl rfl (thrC_l (β := Int32) _ "") (thrS_l (β := Int32) _ "")
    refine g_xVR_ret (AD := A) (As := [.int a1]) X (ZC_ok _ _ _ _ _) (m_X10_rowAt hl hf_1) (cwV 1 X.1.2.2.2.2 gX10_move_X10_rowAt rfl rfl rfl (by decide +kernel) ⟨Nat.le_of_ble_eq_true rfl, Nat.le_of_ble_eq_true rfl⟩) rfl cm0 (cE_0 cy A aK σ) rfl rfl (Nat.le_of_ble_eq_true rfl) ⟨thrC_r _ _, thrS_r _ _⟩ dX10_move_2 (k' := 0) (n' := 0) (thrC_r _ _) (thrS_r _ _) ?_
    refine g_astore X dX10_move_5 (by decide) (lv' := [(4, .ref (A r_2)), (0, .ref (A 0)), (1, .int a1), (2, .int a2), (3, .int a3)]) rfl ?_
    refine g_aload X dX10_move_7 0 rfl ?_
    refine g_iload_n X dX10_move_9 rfl 3 rfl ?_
    rcases bndX_some h with ⟨E_6, hf_4, h⟩ | ⟨r_5, hf_4, h⟩
    · cases h
      exact g_xSV_thr (AD := A) (As := [.ref (A r_2), .int a2]) X (ZC_ok _ _ _ _ _) hx0 (m_X10_needPlace (f_X10_rowAt_row hf_1) hl hf_4) (va_cwS 2 X.1.2.2.2.2 gX10_move_X10_needPlace rfl rfl rfl (by decide +kernel) ⟨Nat.le_of_ble_eq_true rfl, Nat.le_of_ble_eq_true rfl⟩) rfl rfl (Nat.le_of_ble_eq_true rfl) ⟨thrC_l (β := Int32) _ "", thrS_l (β := Int32) _ ""⟩ dX10_move_10 rfl rfl (thrC_l (β := Int32) _ "") (thrS_l (β := Int32) _ "")
    refine g_xSV_ret (AD := A) (As := [.ref (A r_2), .int a2]) X (ZC_ok _ _ _ _ _) (m_X10_needPlace (f_X10_rowAt_row hf_1) hl hf_4) (va_cwS 2 X.1.2.2.2.2 gX10_move_X10_needPlace rfl rfl rfl (by decide +kernel) ⟨Nat.le_of_ble_eq_true rfl, Nat.le_of_ble_eq_true rfl⟩) rfl rfl (Nat.le_of_ble_eq_true rfl) ⟨thrC_r _ _, thrS_r _ _⟩ dX10_move_10 (k' := 0) (n' := 0) (thrC_r _ _) (thrS_r _ _) ?_
    refine g_aload X dX10_move_13 0 rfl ?_
    refine g_iload_n X dX10_move_15 rfl 4 rfl ?_
    rcases bndX_some h with ⟨E_9, hf_7, h⟩ | ⟨r_8, hf_7, h⟩
    · cases h
      exact g_xSV_thr (AD := A) (As := [.ref (A r_2), .int a3]) X (ZC_ok _ _ _ _ _) hx0 (m_X10_needPlace (f_X10_rowAt_row hf_1) hl hf_7) (va_cwS 2 X.1.2.2.2.2 gX10_move_X10_needPlace rfl rfl rfl (by decide +kernel) ⟨Nat.le_of_ble_eq_true rfl, Nat.le_of_ble_eq_true rfl⟩) rfl rfl (Nat.le_of_ble_eq_true rfl) ⟨thrC_l (β := Int32) _ "", thrS_l (β := Int32) _ ""⟩ dX10_move_16 rfl rfl (thrC_l (β := Int32) _ "") (thrS_l (β := Int32) _ "")
    refine g_xSV_ret (AD := A) (As := [.ref (A r_2), .int a3]) X (ZC_ok _ _ _ _ _) (m_X10_needPlace (f_X10_rowAt_row hf_1) hl hf_7) (va_cwS 2 X.1.2.2.2.2 gX10_move_X10_needPlace rfl rfl rfl (by decide +kernel) ⟨Nat.le_of_ble_eq_true rfl, Nat.le_of_ble_eq_true rfl⟩) rfl rfl (Nat.le_of_ble_eq_true rfl) ⟨thrC_r _ _, thrS_r _ _⟩ dX10_move_16 (k' := 0) (n' := 0) (thrC_r _ _) (thrS_r _ _) ?_
    refine g_aload X dX10_move_19 0 rfl ?_
    refine g_iload_n X dX10_move_21 rfl 3 rfl ?_
    obtain ⟨r_11, σ_12, hf_10, h⟩ := bnd2_some h
    refine g_callVI (AD := A) (As := [.int a2]) X (ZC_ok _ _ _ _ _) (m_X6_takeOut (f_X10_rowAt_row hf_1) hf_10) (cwV 1 X.1.2.2.2.2 gX10_move_X6_takeOut rfl rfl rfl (by decide +kernel) ⟨Nat.le_of_ble_eq_true rfl, Nat.le_of_ble_eq_true rfl⟩) rfl ((f_X10_rowAt_row hf_1)).mem (cE_row cy A aK σ (f_X10_rowAt_row hf_1)) rfl rfl (Nat.le_of_ble_eq_true rfl) ⟨Nat.zero_le _, Nat.zero_le _⟩ dX10_move_22 ?_
    refine g_istore X dX10_move_25 (by decide) (lv' := [(5, .int r_11), (4, .ref (A r_2)), (0, .ref (A 0)), (1, .int a1), (2, .int a2), (3, .int a3)]) rfl ?_
    refine g_aload X dX10_move_27 1 rfl ?_
    refine g_iload_n X dX10_move_29 rfl 5 rfl ?_
    refine g_iload X dX10_move_30 0 rfl ?_
    obtain ⟨σ_14, hf_13, h⟩ := bnd_some h
    refine g_callVV (AD := A) (As := [.int a3, .int r_11]) X (ZC_ok _ _ _ _ _) (m_X6_insert (f_X10_rowAt_row hf_1) hf_13) (cwV 2 X.1.2.2.2.2 gX10_move_X6_insert rfl rfl rfl (by decide +kernel) ⟨Nat.le_of_ble_eq_true rfl, Nat.le_of_ble_eq_true rfl⟩) rfl ((f_X10_rowAt_row hf_1)).mem (cE_row cy A aK σ_12 (f_X10_rowAt_row hf_1)) rfl rfl (Nat.le_of_ble_eq_true rfl) ⟨Nat.zero_le _, Nat.zero_le _⟩ dX10_move_32 ?_
    refine g_iload X dX10_move_35 0 rfl ?_
    cases h
    exact g_xret (g_iret (Wf := cW cy A aK X9) X ⟨rfl, rfl⟩ dX10_move_37)
  exact K0
set_option maxHeartbeats 8000000 in
set_option maxRecDepth 100000 in
theorem m_X10_thin {σ : St} {a1 : Int32} {a2 : Int32} {r : String ⊕ Int32} {σ' : St} (hl : l.stackTraces = false) (h : f_X10_thin a1 a2 σ = some (r, σ')) : xI (ZC aK aO aS aV aT) D (cyT cy) l yX10_thin wsX10_thin ({ frames := 7, cells := thrC r, slots := thrS r, locals := 151 } : Room) (cW cy A aK X9) [.ref (A 0), .int a1, .int a2] σ r σ' (thrC r) (thrS r) := by
  unfold f_X10_thin at h
  refine xI_of (cc := cX10_thin) (maxL := 8) (ret := (some .int)) (by decide) rfl (Nat.le_of_ble_eq_true rfl) (fun p e s m args below meth c B X hx0 => ?_)
  have hin10 : ∀ w ∈ wsX100, w ∈ wsX10_thin := by decide +kernel
  have hin6 : ∀ w ∈ wsX60, w ∈ wsX10_thin := by decide +kernel
  have lk0 : Cond.fieldLink RX10 120 "Cardcabinet$Row" "size" "I" ∈ wsX10_thin := by decide +kernel
  have lk1 : Cond.fieldLink RX10 188 "Cardcabinet$Row" "marks" "[I" ∈ wsX10_thin := by decide +kernel
  have lk2 : Cond.fieldLink RX10 12 "Cardcabinet" "deck" "LCardcabinet$Deck;" ∈ wsX10_thin := by decide +kernel
  have K0 : gG p l e ({ frames := 7, cells := thrC r, slots := thrS r, locals := 151 } : Room) s m args below meth c D (cyT cy) B 8 (xeI D (cyT cy) (cW cy A aK X9) B below args s r σ' (thrC r) (thrS r)) (cW cy A aK X9 σ) 0 0 0 [(0, .ref (A 0)), (1, .int a1), (2, .int a2)] [] := by
    refine g_aload_n X dX10_thin_0 rfl 0 rfl ?_
    refine g_iload_n X dX10_thin_1 rfl 1 rfl ?_
    rcases bndX_some h with ⟨E_3, hf_1, h⟩ | ⟨r_2, hf_1, h⟩
    · cases h
      exact g_xVR_thr (AD := A) (As := [.int a1]) X (ZC_ok _ _ _ _ _) hx0 (m_X10_rowAt hl hf_1) (cwV 1 X.1.2.2.2.2 gX10_thin_X10_rowAt rfl rfl rfl (by decide +kernel) ⟨Nat.le_of_ble_eq_true rfl, Nat.le_of_ble_eq_true rfl⟩) rfl cm0 (cE_0 cy A aK _) rfl rfl (Nat.le_of_ble_eq_true rfl) ⟨thrC_l (β := Int32) _ "", thrS_l (β := Int32) _ ""⟩ dX10_thin_2 rfl rfl (thrC_l (β := Int32) _ "") (thrS_l (β := Int32) _ "")
    refine g_xVR_ret (AD := A) (As := [.int a1]) X (ZC_ok _ _ _ _ _) (m_X10_rowAt hl hf_1) (cwV 1 X.1.2.2.2.2 gX10_thin_X10_rowAt rfl rfl rfl (by decide +kernel) ⟨Nat.le_of_ble_eq_true rfl, Nat.le_of_ble_eq_true rfl⟩) rfl cm0 (cE_0 cy A aK σ) rfl rfl (Nat.le_of_ble_eq_true rfl) ⟨thrC_r _ _, thrS_r _ _⟩ dX10_thin_2 (k' := 0) (n' := 0) (thrC_r _ _) (thrS_r _ _) ?_
    refine g_astore_n X dX10_thin_5 rfl (by decide) (lv' := [(3, .ref (A r_2)), (0, .ref (A 0)), (1, .int a1), (2, .int a2)]) rfl ?_
    refine g_aload_n X dX10_thin_6 rfl 0 rfl ?_
    refine g_get X (AD := A) ((f_X10_rowAt_row hf_1)).mem (cE_row cy A aK σ (f_X10_rowAt_row hf_1)) hin6 rfl 1 (by decide) lk0 (fun _ h9 => h9) rfl dX10_thin_7 ?_
    refine g_istore X dX10_thin_10 (by decide) (lv' := [(4, .int (gi σ (8 * r_2 + 1))), (3, .ref (A r_2)), (0, .ref (A 0)), (1, .int a1), (2, .int a2)]) rfl ?_
    refine g_iconst X dX10_thin_12 (v := (0 : Int32)) (by decide) ?_
    refine g_istore X dX10_thin_13 (by decide) (lv' := [(5, .int (0 : Int32)), (4, .int (gi σ (8 * r_2 + 1))), (3, .ref (A r_2)), (0, .ref (A 0)), (1, .int a1), (2, .int a2)]) rfl ?_
    refine g_iconst X dX10_thin_15 (v := (0 : Int32)) (by decide) ?_
    refine g_istore X dX10_thin_16 (by decide) (lv' := [(6, .int (0 : Int32)), (5, .int (0 : Int32)), (4, .int (gi σ (8 * r_2 + 1))), (3, .ref (A r_2)), (0, .ref (A 0)), (1, .int a1), (2, .int a2)]) rfl ?_
    have L_15 : ∀ (c_4 : Int32) (c_5 : Nat) (hp_6 : isRow c_5) (c_7 : Int32) (n_11 : Nat) (v_8 : Int32) (v_9 : Int32) (σ_10 : St) (o_17 : Int32) (σ_16 : St), f_X10_thin_L18 c_4 c_5 c_7 n_11 v_8 v_9 σ_10 = some (o_17, σ_16) → gG p l e ({ frames := 7, cells := thrC r, slots := thrS r, locals := 151 } : Room) s m args below meth c D (cyT cy) B 8 (xeI D (cyT cy) (cW cy A aK X9) B below args s r σ' (thrC r) (thrS r)) (cW cy A aK X9 σ_16) 0 0 65 [(3, .ref (A c_5)), (4, .int c_7), (5, .int o_17)] [] → gG p l e ({ frames := 7, cells := thrC r, slots := thrS r, locals := 151 } : Room) s m args below meth c D (cyT cy) B 8 (xeI D (cyT cy) (cW cy A aK X9) B below args s r σ' (thrC r) (thrS r)) (cW cy A aK X9 σ_10) 0 0 18 [(0, .ref (A 0)), (2, .int c_4), (3, .ref (A c_5)), (4, .int c_7), (5, .int v_8), (6, .int v_9)] [] := by
      intro c_4 c_5 hp_6 c_7 n_11
      induction n_11 with
      | zero =>
        intro v_8 v_9 σ_10 o_17 σ_16 h K_13
        rw [f_X10_thin_L18] at h
        cases h
      | succ n_11 ih_12 =>
        intro v_8 v_9 σ_10 o_17 σ_16 h K_13
        rw [f_X10_thin_L18] at h
        refine g_iload X dX10_thin_18 5 rfl ?_
        refine g_iload X dX10_thin_20 3 rfl ?_
        refine g_icmp_ge X (tgt := 65) dX10_thin_22 (by decide) (fun hc_18 => ?_) (fun hc_18 => ?_)
        · have h := ift hc_18 h
          cases h
          exact g_sub [2, 3, 4] rfl K_13
        · have h := iff_ hc_18 h
          refine g_aload_n X dX10_thin_25 rfl 2 rfl ?_
          refine g_get X (AD := A) (hp_6).mem (cE_row cy A aK σ_10 hp_6) hin6 rfl 0 (by decide) lk1 (fun _ h9 => h9) rfl dX10_thin_26 ?_
          refine g_iload X dX10_thin_29 5 rfl ?_
          obtain ⟨hg_19, h⟩ := grd_some h
          refine g_iald X (AD := A) ((isRow.mk hp_6)).mem (cE_mk cy A aK σ_10 (isRow.mk hp_6)) 0 rfl hg_19 dX10_thin_31 ?_
          refine g_istore X dX10_thin_32 (by decide) (lv' := [(7, .int (gr σ_10 (c_5 + 16) v_9.toNatClampNeg)), (0, .ref (A 0)), (2, .int c_4), (3, .ref (A c_5)), (4, .int c_7), (5, .int v_8), (6, .int v_9)]) rfl ?_
          refine g_aload_n X dX10_thin_34 rfl 1 rfl ?_
          refine g_get X (AD := A) cm0 (cE_0 cy A aK σ_10) hin10 rfl 0 (by decide) lk2 (fun _ h9 => h9) rfl dX10_thin_35 ?_
          refine g_iload X dX10_thin_38 0 rfl ?_
          obtain ⟨r_21, hf_20, h⟩ := bnd_some h
          refine g_callVI (AD := A) (As := [.int (gr σ_10 (c_5 + 16) v_9.toNatClampNeg)]) X (ZC_ok _ _ _ _ _) (m_X1_secondOf hf_20) (cwV 1 X.1.2.2.2.2 gX10_thin_X1_secondOf rfl rfl rfl (by decide +kernel) ⟨Nat.le_of_ble_eq_true rfl, Nat.le_of_ble_eq_true rfl⟩) rfl cm1 (cE_1 cy A aK σ_10) rfl rfl (Nat.le_of_ble_eq_true rfl) ⟨Nat.zero_le _, Nat.zero_le _⟩ dX10_thin_40 ?_
          refine g_iload_n X dX10_thin_43 rfl 2 rfl ?_
          obtain ⟨v_23, σ_24, hj_29, h⟩ := bnd2_some h
          have K_25 : gG p l e ({ frames := 7, cells := thrC r, slots := thrS r, locals := 151 } : Room) s m args below meth c D (cyT cy) B 8 (xeI D (cyT cy) (cW cy A aK X9) B below args s r σ' (thrC r) (thrS r)) (cW cy A aK X9 σ_24) 0 0 59 [(0, .ref (A 0)), (2, .int c_4), (3, .ref (A c_5)), (4, .int c_7), (5, .int v_23), (6, .int v_9)] [] := by
            refine g_iinc X dX10_thin_59 5 rfl (v := v_9 + (1 : Int32)) rfl (by decide) (lv' := [(6, .int (v_9 + (1 : Int32))), (0, .ref (A 0)), (2, .int c_4), (3, .ref (A c_5)), (4, .int c_7), (5, .int v_23)]) rfl ?_
            refine g_goto X (tgt := 18) dX10_thin_62 (by decide) ?_
            exact g_sub [1, 2, 3, 4, 5, 0] rfl (ih_12 _ _ _ _ _ h K_13)
          have h := hj_29
          clear hj_29
          refine g_icmp_eq X (tgt := 59) dX10_thin_44 (by decide) (fun hc_22 => ?_) (fun hc_22 => ?_)
          · have h := ift hc_22 h
            cases h
            exact g_sub [1, 2, 3, 4, 5, 6] rfl K_25
          · have h := iff_ hc_22 h
            refine g_aload_n X dX10_thin_47 rfl 3 rfl ?_
            refine g_get X (AD := A) (hp_6).mem (cE_row cy A aK σ_10 hp_6) hin6 rfl 0 (by decide) lk1 (fun _ h9 => h9) rfl dX10_thin_48 ?_
            refine g_iload X dX10_thin_51 5 rfl ?_
            refine g_iload X dX10_thin_53 0 rfl ?_
            obtain ⟨hg_26, h⟩ := grd_some h
            refine g_iast X (AD := A) (σ' := sr σ_10 (c_5 + 16) (upd (gr σ_10 (c_5 + 16)) v_8.toNatClampNeg (gr σ_10 (c_5 + 16) v_9.toNatClampNeg))) ((isRow.mk hp_6)).mem (cE_mk cy A aK σ_10 (isRow.mk hp_6)) 0 rfl hg_26 (st_mk cy A aK σ_10 (upd (gr σ_10 (c_5 + 16)) v_8.toNatClampNeg (gr σ_10 (c_5 + 16) v_9.toNatClampNeg)) (isRow.mk hp_6)) dX10_thin_55 ?_
            obtain ⟨σ_27, e_28, h⟩ := bnd_some h
            have e_28 := Option.some.inj e_28
            rw [e_28]
            refine g_iinc X dX10_thin_56 5 rfl (v := v_8 + (1 : Int32)) rfl (by decide) (lv' := [(5, .int (v_8 + (1 : Int32))), (7, .int (gr σ_10 (c_5 + 16) v_9.toNatClampNeg)), (0, .ref (A 0)), (2, .int c_4), (3, .ref (A c_5)), (4, .int c_7), (6, .int v_9)]) rfl ?_
            cases h
            exact g_sub [2, 3, 4, 5, 0, 6] rfl K_25
    obtain ⟨o_17, σ_16, hl_30, h⟩ := bnd2_some h
    refine g_sub [4, 6, 3, 2, 1, 0] rfl (L_15 a2 r_2 (f_X10_rowAt_row hf_1) (gi σ (8 * r_2 + 1)) FU (0 : Int32) (0 : Int32) σ o_17 σ_16 hl_30 ?_)
    refine g_aload_n X dX10_thin_65 rfl 0 rfl ?_
    refine g_iload X dX10_thin_66 2 rfl ?_
    refine g_put X (AD := A) (ty := .int) (v := .int o_17) (σ' := si σ_16 (8 * r_2 + 1) o_17) ((f_X10_rowAt_row hf_1)).mem (cE_row cy A aK σ_16 (f_X10_rowAt_row hf_1)) hin6 rfl tyX6 tyX6_ok nmX6 1 (by decide) lk0 (fun _ h9 => h9) rfl (by decide +kernel) rfl rfl (Nat.le_of_ble_eq_true rfl) (sf_row cy A aK σ_16 o_17 (f_X10_rowAt_row hf_1)) dX10_thin_68 ?_
    refine g_iload X dX10_thin_71 1 rfl ?_
    refine g_iload X dX10_thin_73 2 rfl ?_
    refine g_isub X dX10_thin_75 ?_
    cases h
    exact g_xret (g_iret (Wf := cW cy A aK X9) X ⟨rfl, rfl⟩ dX10_thin_76)
  exact K0
set_option maxHeartbeats 8000000 in
set_option maxRecDepth 100000 in
theorem m_X10_single {σ : St} {a1 : Int32} {r : String ⊕ Int32} {σ' : St} (hl : l.stackTraces = false) (h : f_X10_single a1 σ = some (r, σ')) : xI (ZC aK aO aS aV aT) D (cyT cy) l yX10_single wsX10_single ({ frames := 7, cells := thrC r, slots := thrS r, locals := 151 } : Room) (cW cy A aK X9) [.ref (A 0), .int a1] σ r σ' (thrC r) (thrS r) := by
  unfold f_X10_single at h
  refine xI_of (cc := cX10_single) (maxL := 7) (ret := (some .int)) (by decide) rfl (Nat.le_of_ble_eq_true rfl) (fun p e s m args below meth c B X hx0 => ?_)
  have hin10 : ∀ w ∈ wsX100, w ∈ wsX10_single := by decide +kernel
  have hin6 : ∀ w ∈ wsX60, w ∈ wsX10_single := by decide +kernel
  have lk0 : Cond.fieldLink RX10 120 "Cardcabinet$Row" "size" "I" ∈ wsX10_single := by decide +kernel
  have lk1 : Cond.fieldLink RX10 188 "Cardcabinet$Row" "marks" "[I" ∈ wsX10_single := by decide +kernel
  have lk2 : Cond.fieldLink RX10 12 "Cardcabinet" "deck" "LCardcabinet$Deck;" ∈ wsX10_single := by decide +kernel
  have K0 : gG p l e ({ frames := 7, cells := thrC r, slots := thrS r, locals := 151 } : Room) s m args below meth c D (cyT cy) B 7 (xeI D (cyT cy) (cW cy A aK X9) B below args s r σ' (thrC r) (thrS r)) (cW cy A aK X9 σ) 0 0 0 [(0, .ref (A 0)), (1, .int a1)] [] := by
    refine g_aload_n X dX10_single_0 rfl 0 rfl ?_
    refine g_iload_n X dX10_single_1 rfl 1 rfl ?_
    rcases bndX_some h with ⟨E_3, hf_1, h⟩ | ⟨r_2, hf_1, h⟩
    · cases h
      exact g_xVR_thr (AD := A) (As := [.int a1]) X (ZC_ok _ _ _ _ _) hx0 (m_X10_rowAt hl hf_1) (cwV 1 X.1.2.2.2.2 gX10_single_X10_rowAt rfl rfl rfl (by decide +kernel) ⟨Nat.le_of_ble_eq_true rfl, Nat.le_of_ble_eq_true rfl⟩) rfl cm0 (cE_0 cy A aK _) rfl rfl (Nat.le_of_ble_eq_true rfl) ⟨thrC_l (β := Int32) _ "", thrS_l (β := Int32) _ ""⟩ dX10_single_2 rfl rfl (thrC_l (β := Int32) _ "") (thrS_l (β := Int32) _ "")
    refine g_xVR_ret (AD := A) (As := [.int a1]) X (ZC_ok _ _ _ _ _) (m_X10_rowAt hl hf_1) (cwV 1 X.1.2.2.2.2 gX10_single_X10_rowAt rfl rfl rfl (by decide +kernel) ⟨Nat.le_of_ble_eq_true rfl, Nat.le_of_ble_eq_true rfl⟩) rfl cm0 (cE_0 cy A aK σ) rfl rfl (Nat.le_of_ble_eq_true rfl) ⟨thrC_r _ _, thrS_r _ _⟩ dX10_single_2 (k' := 0) (n' := 0) (thrC_r _ _) (thrS_r _ _) ?_
    refine g_astore_n X dX10_single_5 rfl (by decide) (lv' := [(2, .ref (A r_2)), (0, .ref (A 0)), (1, .int a1)]) rfl ?_
    refine g_aload_n X dX10_single_6 rfl 0 rfl ?_
    refine g_get X (AD := A) ((f_X10_rowAt_row hf_1)).mem (cE_row cy A aK σ (f_X10_rowAt_row hf_1)) hin6 rfl 1 (by decide) lk0 (fun _ h9 => h9) rfl dX10_single_7 ?_
    refine g_istore_n X dX10_single_10 rfl (by decide) (lv' := [(3, .int (gi σ (8 * r_2 + 1))), (2, .ref (A r_2)), (0, .ref (A 0)), (1, .int a1)]) rfl ?_
    refine g_iconst X dX10_single_11 (v := (0 : Int32)) (by decide) ?_
    refine g_istore X dX10_single_12 (by decide) (lv' := [(4, .int (0 : Int32)), (3, .int (gi σ (8 * r_2 + 1))), (2, .ref (A r_2)), (0, .ref (A 0)), (1, .int a1)]) rfl ?_
    refine g_iconst X dX10_single_14 (v := (0 : Int32)) (by decide) ?_
    refine g_istore X dX10_single_15 (by decide) (lv' := [(5, .int (0 : Int32)), (4, .int (0 : Int32)), (3, .int (gi σ (8 * r_2 + 1))), (2, .ref (A r_2)), (0, .ref (A 0)), (1, .int a1)]) rfl ?_
    have L_14 : ∀ (c_4 : Nat) (hp_5 : isRow c_4) (c_6 : Int32) (n_10 : Nat) (v_7 : Int32) (v_8 : Int32) (σ_9 : St) (o_16 : Int32) (σ_15 : St), f_X10_single_L17 c_4 c_6 n_10 v_7 v_8 σ_9 = some (o_16, σ_15) → gG p l e ({ frames := 7, cells := thrC r, slots := thrS r, locals := 151 } : Room) s m args below meth c D (cyT cy) B 7 (xeI D (cyT cy) (cW cy A aK X9) B below args s r σ' (thrC r) (thrS r)) (cW cy A aK X9 σ_15) 0 0 83 [(2, .ref (A c_4)), (3, .int c_6), (4, .int o_16)] [] → gG p l e ({ frames := 7, cells := thrC r, slots := thrS r, locals := 151 } : Room) s m args below meth c D (cyT cy) B 7 (xeI D (cyT cy) (cW cy A aK X9) B below args s r σ' (thrC r) (thrS r)) (cW cy A aK X9 σ_9) 0 0 17 [(0, .ref (A 0)), (2, .ref (A c_4)), (3, .int c_6), (4, .int v_7), (5, .int v_8)] [] := by
      intro c_4 hp_5 c_6 n_10
      induction n_10 with
      | zero =>
        intro v_7 v_8 σ_9 o_16 σ_15 h K_12
        rw [f_X10_single_L17] at h
        cases h
      | succ n_10 ih_11 =>
        intro v_7 v_8 σ_9 o_16 σ_15 h K_12
        rw [f_X10_single_L17] at h
        refine g_iload X dX10_single_17 4 rfl ?_
        refine g_iload_n X dX10_single_19 rfl 2 rfl ?_
        refine g_icmp_ge X (tgt := 83) dX10_single_20 (by decide) (fun hc_17 => ?_) (fun hc_17 => ?_)
        · have h := ift hc_17 h
          cases h
          exact g_sub [1, 2, 3] rfl K_12
        · have h := iff_ hc_17 h
          refine g_aload_n X dX10_single_23 rfl 1 rfl ?_
          refine g_get X (AD := A) (hp_5).mem (cE_row cy A aK σ_9 hp_5) hin6 rfl 0 (by decide) lk1 (fun _ h9 => h9) rfl dX10_single_24 ?_
          refine g_iload X dX10_single_27 4 rfl ?_
          obtain ⟨hg_18, h⟩ := grd_some h
          refine g_iald X (AD := A) ((isRow.mk hp_5)).mem (cE_mk cy A aK σ_9 (isRow.mk hp_5)) 0 rfl hg_18 dX10_single_29 ?_
          refine g_istore X dX10_single_30 (by decide) (lv' := [(6, .int (gr σ_9 (c_4 + 16) v_8.toNatClampNeg)), (0, .ref (A 0)), (2, .ref (A c_4)), (3, .int c_6), (4, .int v_7), (5, .int v_8)]) rfl ?_
          refine g_iload X dX10_single_32 4 rfl ?_
          obtain ⟨v_20, σ_21, hj_35, h⟩ := bnd2_some h
          have K_22 : gG p l e ({ frames := 7, cells := thrC r, slots := thrS r, locals := 151 } : Room) s m args below meth c D (cyT cy) B 7 (xeI D (cyT cy) (cW cy A aK X9) B below args s r σ' (thrC r) (thrS r)) (cW cy A aK X9 σ_21) 0 0 77 [(0, .ref (A 0)), (2, .ref (A c_4)), (3, .int c_6), (4, .int v_20), (5, .int v_8)] [] := by
            refine g_iinc X dX10_single_77 4 rfl (v := v_8 + (1 : Int32)) rfl (by decide) (lv' := [(5, .int (v_8 + (1 : Int32))), (0, .ref (A 0)), (2, .ref (A c_4)), (3, .int c_6), (4, .int v_20)]) rfl ?_
            refine g_goto X (tgt := 17) dX10_single_80 (by decide) ?_
            exact g_sub [1, 2, 3, 4, 0] rfl (ih_11 _ _ _ _ _ h K_12)
          have h := hj_35
          clear hj_35
          refine g_if_eq X (tgt := 65) dX10_single_34 (by decide) (fun hc_19 => ?_) (fun hc_19 => ?_)
          · have h := ift hc_19 h
            refine g_aload_n X dX10_single_65 rfl 2 rfl ?_
            refine g_get X (AD := A) (hp_5).mem (cE_row cy A aK σ_9 hp_5) hin6 rfl 0 (by decide) lk1 (fun _ h9 => h9) rfl dX10_single_66 ?_
            refine g_iload X dX10_single_69 4 rfl ?_
            refine g_iload X dX10_single_71 0 rfl ?_
            obtain ⟨hg_23, h⟩ := grd_some h
            refine g_iast X (AD := A) (σ' := sr σ_9 (c_4 + 16) (upd (gr σ_9 (c_4 + 16)) v_7.toNatClampNeg (gr σ_9 (c_4 + 16) v_8.toNatClampNeg))) ((isRow.mk hp_5)).mem (cE_mk cy A aK σ_9 (isRow.mk hp_5)) 0 rfl hg_23 (st_mk cy A aK σ_9 (upd (gr σ_9 (c_4 + 16)) v_7.toNatClampNeg (gr σ_9 (c_4 + 16) v_8.toNatClampNeg)) (isRow.mk hp_5)) dX10_single_73 ?_
            obtain ⟨σ_24, e_25, h⟩ := bnd_some h
            have e_25 := Option.some.inj e_25
            rw [e_25]
            refine g_iinc X dX10_single_74 4 rfl (v := v_7 + (1 : Int32)) rfl (by decide) (lv' := [(4, .int (v_7 + (1 : Int32))), (6, .int (gr σ_9 (c_4 + 16) v_8.toNatClampNeg)), (0, .ref (A 0)), (2, .ref (A c_4)), (3, .int c_6), (5, .int v_8)]) rfl ?_
            cases h
            exact g_sub [2, 3, 4, 0, 5] rfl K_22
          · have h := iff_ hc_19 h
            refine g_aload_n X dX10_single_37 rfl 1 rfl ?_
            refine g_get X (AD := A) cm0 (cE_0 cy A aK σ_9) hin10 rfl 0 (by decide) lk2 (fun _ h9 => h9) rfl dX10_single_38 ?_
            refine g_iload X dX10_single_41 0 rfl ?_
            obtain ⟨r_27, hf_26, h⟩ := bnd_some h
            refine g_callVI (AD := A) (As := [.int (gr σ_9 (c_4 + 16) v_8.toNatClampNeg)]) X (ZC_ok _ _ _ _ _) (m_X1_firstOf hf_26) (cwV 1 X.1.2.2.2.2 gX10_single_X1_firstOf rfl rfl rfl (by decide +kernel) ⟨Nat.le_of_ble_eq_true rfl, Nat.le_of_ble_eq_true rfl⟩) rfl cm1 (cE_1 cy A aK σ_9) rfl rfl (Nat.le_of_ble_eq_true rfl) ⟨Nat.zero_le _, Nat.zero_le _⟩ dX10_single_43 ?_
            refine g_aload_n X dX10_single_46 rfl 1 rfl ?_
            refine g_get X (AD := A) cm0 (cE_0 cy A aK σ_9) hin10 rfl 0 (by decide) lk2 (fun _ h9 => h9) rfl dX10_single_47 ?_
            refine g_aload_n X dX10_single_50 rfl 2 rfl ?_
            refine g_get X (AD := A) (hp_5).mem (cE_row cy A aK σ_9 hp_5) hin6 rfl 0 (by decide) lk1 (fun _ h9 => h9) rfl dX10_single_51 ?_
            refine g_iload X dX10_single_54 4 rfl ?_
            refine g_iconst X dX10_single_56 (v := (1 : Int32)) (by decide) ?_
            refine g_isub X dX10_single_57 ?_
            obtain ⟨hg_28, h⟩ := grd_some h
            refine g_iald X (AD := A) ((isRow.mk hp_5)).mem (cE_mk cy A aK σ_9 (isRow.mk hp_5)) 0 rfl hg_28 dX10_single_58 ?_
            obtain ⟨r_30, hf_29, h⟩ := bnd_some h
            refine g_callVI (AD := A) (As := [.int (gr σ_9 (c_4 + 16) (v_7 - (1 : Int32)).toNatClampNeg)]) X (ZC_ok _ _ _ _ _) (m_X1_firstOf hf_29) (cwV 1 X.1.2.2.2.2 gX10_single_X1_firstOf rfl rfl rfl (by decide +kernel) ⟨Nat.le_of_ble_eq_true rfl, Nat.le_of_ble_eq_true rfl⟩) rfl cm1 (cE_1 cy A aK σ_9) rfl rfl (Nat.le_of_ble_eq_true rfl) ⟨Nat.zero_le _, Nat.zero_le _⟩ dX10_single_59 ?_
            refine g_icmp_eq X (tgt := 77) dX10_single_62 (by decide) (fun hc_31 => ?_) (fun hc_31 => ?_)
            · have h := ift hc_31 h
              cases h
              exact g_sub [1, 2, 3, 4, 5] rfl K_22
            · have h := iff_ hc_31 h
              refine g_aload_n X dX10_single_65 rfl 2 rfl ?_
              refine g_get X (AD := A) (hp_5).mem (cE_row cy A aK σ_9 hp_5) hin6 rfl 0 (by decide) lk1 (fun _ h9 => h9) rfl dX10_single_66 ?_
              refine g_iload X dX10_single_69 4 rfl ?_
              refine g_iload X dX10_single_71 0 rfl ?_
              obtain ⟨hg_32, h⟩ := grd_some h
              refine g_iast X (AD := A) (σ' := sr σ_9 (c_4 + 16) (upd (gr σ_9 (c_4 + 16)) v_7.toNatClampNeg (gr σ_9 (c_4 + 16) v_8.toNatClampNeg))) ((isRow.mk hp_5)).mem (cE_mk cy A aK σ_9 (isRow.mk hp_5)) 0 rfl hg_32 (st_mk cy A aK σ_9 (upd (gr σ_9 (c_4 + 16)) v_7.toNatClampNeg (gr σ_9 (c_4 + 16) v_8.toNatClampNeg)) (isRow.mk hp_5)) dX10_single_73 ?_
              obtain ⟨σ_33, e_34, h⟩ := bnd_some h
              have e_34 := Option.some.inj e_34
              rw [e_34]
              refine g_iinc X dX10_single_74 4 rfl (v := v_7 + (1 : Int32)) rfl (by decide) (lv' := [(4, .int (v_7 + (1 : Int32))), (6, .int (gr σ_9 (c_4 + 16) v_8.toNatClampNeg)), (0, .ref (A 0)), (2, .ref (A c_4)), (3, .int c_6), (5, .int v_8)]) rfl ?_
              cases h
              exact g_sub [2, 3, 4, 0, 5] rfl K_22
    obtain ⟨o_16, σ_15, hl_36, h⟩ := bnd2_some h
    refine g_sub [4, 3, 2, 1, 0] rfl (L_14 r_2 (f_X10_rowAt_row hf_1) (gi σ (8 * r_2 + 1)) FU (0 : Int32) (0 : Int32) σ o_16 σ_15 hl_36 ?_)
    refine g_aload_n X dX10_single_83 rfl 0 rfl ?_
    refine g_iload X dX10_single_84 2 rfl ?_
    refine g_put X (AD := A) (ty := .int) (v := .int o_16) (σ' := si σ_15 (8 * r_2 + 1) o_16) ((f_X10_rowAt_row hf_1)).mem (cE_row cy A aK σ_15 (f_X10_rowAt_row hf_1)) hin6 rfl tyX6 tyX6_ok nmX6 1 (by decide) lk0 (fun _ h9 => h9) rfl (by decide +kernel) rfl rfl (Nat.le_of_ble_eq_true rfl) (sf_row cy A aK σ_15 o_16 (f_X10_rowAt_row hf_1)) dX10_single_86 ?_
    refine g_iload_n X dX10_single_89 rfl 1 rfl ?_
    refine g_iload X dX10_single_90 2 rfl ?_
    refine g_isub X dX10_single_92 ?_
    cases h
    exact g_xret (g_iret (Wf := cW cy A aK X9) X ⟨rfl, rfl⟩ dX10_single_93)
  exact K0
end MV
