section MV
variable {D : va_G} {cy : Nat → ClassId} {A aK aO aS aV aT : Nat → Nat} {l : Launch} {X9 : va_W}
set_option maxHeartbeats 8000000 in
set_option maxRecDepth 100000 in
theorem m_X8_merge {σ : St} {a1 : Int32} {a2 : Int32} {a3 : Int32} {a4 : Nat} {r : Int32} {σ' : St} (h4 : a4 < 4) (h : f_X8_merge a1 a2 a3 a4 σ = some (r, σ')) : mI (ZC aK aO aS aV aT) D (cyT cy) l yX8_merge wsX8_merge ({ frames := 2, cells := 0, slots := 0, locals := 65 } : Room) (cW cy A aK X9) [.ref (A 7), .int a1, .int a2, .int a3, .ref (aO a4)] σ r σ' := by
  unfold f_X8_merge at h
  refine mI_of (cc := cX8_merge) (maxL := 9) (ret := (some .int)) (by decide) rfl (Nat.le_of_ble_eq_true rfl) (fun p e s m args below meth c B X => ?_)
  have hin8 : ∀ w ∈ wsX80, w ∈ wsX8_merge := by decide +kernel
  have lk0 : Cond.fieldLink RX8 15 "Cardcabinet$Sorter" "merged" "[I" ∈ wsX8_merge := by decide +kernel
  have lk1 : Cond.fieldLink RX8 9 "Cardcabinet$Sorter" "marks" "[I" ∈ wsX8_merge := by decide +kernel
  have K0 : gG p l e ({ frames := 2, cells := 0, slots := 0, locals := 65 } : Room) s m args below meth c D (cyT cy) B 9 (eI D (cyT cy) (cW cy A aK X9) B below args s r σ') (cW cy A aK X9 σ) 0 0 0 [(0, .ref (A 7)), (1, .int a1), (2, .int a2), (3, .int a3), (4, .ref (aO a4))] [] := by
    refine g_iconst X dX8_merge_0 (v := (0 : Int32)) (by decide) ?_
    refine g_istore X dX8_merge_1 (by decide) (lv' := [(5, .int (0 : Int32)), (0, .ref (A 7)), (1, .int a1), (2, .int a2), (3, .int a3), (4, .ref (aO a4))]) rfl ?_
    refine g_iload_n X dX8_merge_3 rfl 2 rfl ?_
    refine g_istore X dX8_merge_4 (by decide) (lv' := [(6, .int a1), (5, .int (0 : Int32)), (0, .ref (A 7)), (1, .int a1), (2, .int a2), (3, .int a3), (4, .ref (aO a4))]) rfl ?_
    refine g_iload_n X dX8_merge_6 rfl 4 rfl ?_
    refine g_istore X dX8_merge_7 (by decide) (lv' := [(7, .int a2), (6, .int a1), (5, .int (0 : Int32)), (0, .ref (A 7)), (1, .int a1), (2, .int a2), (3, .int a3), (4, .ref (aO a4))]) rfl ?_
    refine g_iload_n X dX8_merge_9 rfl 4 rfl ?_
    refine g_istore X dX8_merge_10 (by decide) (lv' := [(8, .int a1), (7, .int a2), (6, .int a1), (5, .int (0 : Int32)), (0, .ref (A 7)), (1, .int a1), (2, .int a2), (3, .int a3), (4, .ref (aO a4))]) rfl ?_
    have L_14 : ∀ (c_1 : Int32) (c_2 : Int32) (c_3 : Nat) (hp_4 : c_3 < 4) (n_10 : Nat) (v_5 : Int32) (v_6 : Int32) (v_7 : Int32) (v_8 : Int32) (σ_9 : St) (o_16 : Int32) (σ_15 : St), f_X8_merge_L12 c_1 c_2 c_3 n_10 v_5 v_6 v_7 v_8 σ_9 = some (o_16, σ_15) → gG p l e ({ frames := 2, cells := 0, slots := 0, locals := 65 } : Room) s m args below meth c D (cyT cy) B 9 (eI D (cyT cy) (cW cy A aK X9) B below args s r σ') (cW cy A aK X9 σ_15) 0 0 105 [(5, .int o_16)] [] → gG p l e ({ frames := 2, cells := 0, slots := 0, locals := 65 } : Room) s m args below meth c D (cyT cy) B 9 (eI D (cyT cy) (cW cy A aK X9) B below args s r σ') (cW cy A aK X9 σ_9) 0 0 12 [(0, .ref (A 7)), (2, .int c_1), (3, .int c_2), (4, .ref (aO c_3)), (5, .int v_5), (6, .int v_6), (7, .int v_7), (8, .int v_8)] [] := by
      intro c_1 c_2 c_3 hp_4 n_10
      induction n_10 with
      | zero =>
        intro v_5 v_6 v_7 v_8 σ_9 o_16 σ_15 h K_12
        rw [f_X8_merge_L12] at h
        cases h
      | succ n_10 ih_11 =>
        intro v_5 v_6 v_7 v_8 σ_9 o_16 σ_15 h K_12
        rw [f_X8_merge_L12] at h
        refine g_iload X dX8_merge_12 7 rfl ?_
        refine g_iload_n X dX8_merge_14 rfl 2 rfl ?_
        refine g_icmp_ge X (tgt := 105) dX8_merge_15 (by decide) (fun hc_17 => ?_) (fun hc_17 => ?_)
        · have h := ift hc_17 h
          cases h
          exact g_sub [4] rfl K_12
        · have h := iff_ hc_17 h
          refine g_iload X dX8_merge_18 5 rfl ?_
          refine g_iload_n X dX8_merge_20 rfl 1 rfl ?_
          obtain ⟨v_19, v_20, v_21, σ_22, hj_56, h⟩ := bnd4_some h
          have K_23 : gG p l e ({ frames := 2, cells := 0, slots := 0, locals := 65 } : Room) s m args below meth c D (cyT cy) B 9 (eI D (cyT cy) (cW cy A aK X9) B below args s r σ') (cW cy A aK X9 σ_22) 0 0 99 [(0, .ref (A 7)), (2, .int c_1), (3, .int c_2), (4, .ref (aO c_3)), (5, .int v_19), (6, .int v_20), (7, .int v_21), (8, .int v_8)] [] := by
            refine g_iinc X dX8_merge_99 7 rfl (v := v_8 + (1 : Int32)) rfl (by decide) (lv' := [(8, .int (v_8 + (1 : Int32))), (0, .ref (A 7)), (2, .int c_1), (3, .int c_2), (4, .ref (aO c_3)), (5, .int v_19), (6, .int v_20), (7, .int v_21)]) rfl ?_
            refine g_goto X (tgt := 12) dX8_merge_102 (by decide) ?_
            exact g_sub [1, 2, 3, 4, 5, 6, 7, 0] rfl (ih_11 _ _ _ _ _ _ _ h K_12)
          have h := hj_56
          clear hj_56
          refine g_icmp_ge X (tgt := 53) dX8_merge_21 (by decide) (fun hc_18 => ?_) (fun hc_18 => ?_)
          · have h := ift hc_18 h
            refine g_iload X dX8_merge_53 4 rfl ?_
            refine g_iload_n X dX8_merge_55 rfl 1 rfl ?_
            refine g_iload X dX8_merge_56 5 rfl ?_
            refine g_isub X dX8_merge_58 ?_
            refine g_iadd X dX8_merge_59 ?_
            refine g_istore X dX8_merge_60 (by decide) (lv' := [(5, .int (v_5 + (c_1 - v_6))), (0, .ref (A 7)), (2, .int c_1), (3, .int c_2), (4, .ref (aO c_3)), (6, .int v_6), (7, .int v_7), (8, .int v_8)]) rfl ?_
            refine g_aload_n X dX8_merge_62 rfl 1 rfl ?_
            refine g_get X (AD := A) cm7 (cE_7 cy A aK σ_9) hin8 rfl 2 (by decide) lk0 (fun _ h9 => h9) rfl dX8_merge_63 ?_
            obtain ⟨hg_24, h⟩ := grd_some h
            refine g_iload X dX8_merge_66 7 rfl ?_
            refine g_aload_n X dX8_merge_68 rfl 1 rfl ?_
            refine g_get X (AD := A) cm7 (cE_7 cy A aK σ_9) hin8 rfl 1 (by decide) lk1 (fun _ h9 => h9) rfl dX8_merge_69 ?_
            obtain ⟨hg_25, h⟩ := grd_some h
            refine g_iload X dX8_merge_72 6 rfl ?_
            obtain ⟨hg_26, h⟩ := grd_some h
            refine g_iald X (AD := A) (isSm.mem hg_25) (cE_sm cy A aK σ_9 hg_25) 0 rfl hg_26 dX8_merge_74 ?_
            obtain ⟨hg_27, h⟩ := grd_some h
            refine g_iast X (AD := A) (σ' := sr σ_9 (gp σ_9 58) (upd (gr σ_9 (gp σ_9 58)) v_8.toNatClampNeg (gr σ_9 (gp σ_9 57) v_7.toNatClampNeg))) (isSm.mem hg_24) (cE_sm cy A aK σ_9 hg_24) 0 rfl hg_27 (st_sm cy A aK σ_9 (upd (gr σ_9 (gp σ_9 58)) v_8.toNatClampNeg (gr σ_9 (gp σ_9 57) v_7.toNatClampNeg)) hg_24) dX8_merge_75 ?_
            obtain ⟨σ_28, e_29, h⟩ := bnd_some h
            have e_29 := Option.some.inj e_29
            rw [e_29]
            refine g_iinc X dX8_merge_76 6 rfl (v := v_7 + (1 : Int32)) rfl (by decide) (lv' := [(7, .int (v_7 + (1 : Int32))), (5, .int (v_5 + (c_1 - v_6))), (0, .ref (A 7)), (2, .int c_1), (3, .int c_2), (4, .ref (aO c_3)), (6, .int v_6), (8, .int v_8)]) rfl ?_
            refine g_goto X (tgt := 99) dX8_merge_79 (by decide) ?_
            cases h
            exact g_sub [2, 3, 4, 5, 1, 6, 0, 7] rfl K_23
          · have h := iff_ hc_18 h
            refine g_iload X dX8_merge_24 6 rfl ?_
            refine g_iload_n X dX8_merge_26 rfl 2 rfl ?_
            refine g_icmp_ge X (tgt := 82) dX8_merge_27 (by decide) (fun hc_30 => ?_) (fun hc_30 => ?_)
            · have h := ift hc_30 h
              refine g_aload_n X dX8_merge_82 rfl 0 rfl ?_
              refine g_get X (AD := A) cm7 (cE_7 cy A aK σ_9) hin8 rfl 2 (by decide) lk0 (fun _ h9 => h9) rfl dX8_merge_83 ?_
              obtain ⟨hg_31, h⟩ := grd_some h
              refine g_iload X dX8_merge_86 7 rfl ?_
              refine g_aload_n X dX8_merge_88 rfl 0 rfl ?_
              refine g_get X (AD := A) cm7 (cE_7 cy A aK σ_9) hin8 rfl 1 (by decide) lk1 (fun _ h9 => h9) rfl dX8_merge_89 ?_
              obtain ⟨hg_32, h⟩ := grd_some h
              refine g_iload X dX8_merge_92 5 rfl ?_
              obtain ⟨hg_33, h⟩ := grd_some h
              refine g_iald X (AD := A) (isSm.mem hg_32) (cE_sm cy A aK σ_9 hg_32) 0 rfl hg_33 dX8_merge_94 ?_
              obtain ⟨hg_34, h⟩ := grd_some h
              refine g_iast X (AD := A) (σ' := sr σ_9 (gp σ_9 58) (upd (gr σ_9 (gp σ_9 58)) v_8.toNatClampNeg (gr σ_9 (gp σ_9 57) v_6.toNatClampNeg))) (isSm.mem hg_31) (cE_sm cy A aK σ_9 hg_31) 0 rfl hg_34 (st_sm cy A aK σ_9 (upd (gr σ_9 (gp σ_9 58)) v_8.toNatClampNeg (gr σ_9 (gp σ_9 57) v_6.toNatClampNeg)) hg_31) dX8_merge_95 ?_
              obtain ⟨σ_35, e_36, h⟩ := bnd_some h
              have e_36 := Option.some.inj e_36
              rw [e_36]
              refine g_iinc X dX8_merge_96 5 rfl (v := v_6 + (1 : Int32)) rfl (by decide) (lv' := [(6, .int (v_6 + (1 : Int32))), (0, .ref (A 7)), (2, .int c_1), (3, .int c_2), (4, .ref (aO c_3)), (5, .int v_5), (7, .int v_7), (8, .int v_8)]) rfl ?_
              cases h
              exact g_sub [1, 2, 3, 4, 5, 0, 6, 7] rfl K_23
            · have h := iff_ hc_30 h
              refine g_aload_n X dX8_merge_30 rfl 0 rfl ?_
              refine g_aload_n X dX8_merge_31 rfl 0 rfl ?_
              refine g_get X (AD := A) cm7 (cE_7 cy A aK σ_9) hin8 rfl 1 (by decide) lk1 (fun _ h9 => h9) rfl dX8_merge_32 ?_
              obtain ⟨hg_37, h⟩ := grd_some h
              refine g_iload X dX8_merge_35 5 rfl ?_
              obtain ⟨hg_38, h⟩ := grd_some h
              refine g_iald X (AD := A) (isSm.mem hg_37) (cE_sm cy A aK σ_9 hg_37) 0 rfl hg_38 dX8_merge_37 ?_
              refine g_aload_n X dX8_merge_38 rfl 0 rfl ?_
              refine g_get X (AD := A) cm7 (cE_7 cy A aK σ_9) hin8 rfl 1 (by decide) lk1 (fun _ h9 => h9) rfl dX8_merge_39 ?_
              obtain ⟨hg_39, h⟩ := grd_some h
              refine g_iload X dX8_merge_42 6 rfl ?_
              obtain ⟨hg_40, h⟩ := grd_some h
              refine g_iald X (AD := A) (isSm.mem hg_39) (cE_sm cy A aK σ_9 hg_39) 0 rfl hg_40 dX8_merge_44 ?_
              refine g_aload X dX8_merge_45 3 rfl ?_
              obtain ⟨r_42, hf_41, h⟩ := bnd_some h
              refine g_callVI (AD := A) (As := [.int (gr σ_9 (gp σ_9 57) v_6.toNatClampNeg), .int (gr σ_9 (gp σ_9 57) v_7.toNatClampNeg), .ref (aO c_3)]) X (ZC_ok _ _ _ _ _) (m_X8_isWrongPair hp_4 hf_41) (cwV 3 X.1.2.2.2.2 gX8_merge_X8_isWrongPair rfl rfl rfl (by decide +kernel) ⟨Nat.le_of_ble_eq_true rfl, Nat.le_of_ble_eq_true rfl⟩) rfl cm7 (cE_7 cy A aK σ_9) rfl rfl (Nat.le_of_ble_eq_true rfl) ⟨Nat.zero_le _, Nat.zero_le _⟩ dX8_merge_47 ?_
              refine g_if_eq X (tgt := 82) dX8_merge_50 (by decide) (fun hc_43 => ?_) (fun hc_43 => ?_)
              · have h := ift hc_43 h
                refine g_aload_n X dX8_merge_82 rfl 0 rfl ?_
                refine g_get X (AD := A) cm7 (cE_7 cy A aK σ_9) hin8 rfl 2 (by decide) lk0 (fun _ h9 => h9) rfl dX8_merge_83 ?_
                obtain ⟨hg_44, h⟩ := grd_some h
                refine g_iload X dX8_merge_86 7 rfl ?_
                refine g_aload_n X dX8_merge_88 rfl 0 rfl ?_
                refine g_get X (AD := A) cm7 (cE_7 cy A aK σ_9) hin8 rfl 1 (by decide) lk1 (fun _ h9 => h9) rfl dX8_merge_89 ?_
                obtain ⟨hg_45, h⟩ := grd_some h
                refine g_iload X dX8_merge_92 5 rfl ?_
                obtain ⟨hg_46, h⟩ := grd_some h
                refine g_iald X (AD := A) (isSm.mem hg_45) (cE_sm cy A aK σ_9 hg_45) 0 rfl hg_46 dX8_merge_94 ?_
                obtain ⟨hg_47, h⟩ := grd_some h
                refine g_iast X (AD := A) (σ' := sr σ_9 (gp σ_9 58) (upd (gr σ_9 (gp σ_9 58)) v_8.toNatClampNeg (gr σ_9 (gp σ_9 57) v_6.toNatClampNeg))) (isSm.mem hg_44) (cE_sm cy A aK σ_9 hg_44) 0 rfl hg_47 (st_sm cy A aK σ_9 (upd (gr σ_9 (gp σ_9 58)) v_8.toNatClampNeg (gr σ_9 (gp σ_9 57) v_6.toNatClampNeg)) hg_44) dX8_merge_95 ?_
                obtain ⟨σ_48, e_49, h⟩ := bnd_some h
                have e_49 := Option.some.inj e_49
                rw [e_49]
                refine g_iinc X dX8_merge_96 5 rfl (v := v_6 + (1 : Int32)) rfl (by decide) (lv' := [(6, .int (v_6 + (1 : Int32))), (0, .ref (A 7)), (2, .int c_1), (3, .int c_2), (4, .ref (aO c_3)), (5, .int v_5), (7, .int v_7), (8, .int v_8)]) rfl ?_
                cases h
                exact g_sub [1, 2, 3, 4, 5, 0, 6, 7] rfl K_23
              · have h := iff_ hc_43 h
                refine g_iload X dX8_merge_53 4 rfl ?_
                refine g_iload_n X dX8_merge_55 rfl 1 rfl ?_
                refine g_iload X dX8_merge_56 5 rfl ?_
                refine g_isub X dX8_merge_58 ?_
                refine g_iadd X dX8_merge_59 ?_
                refine g_istore X dX8_merge_60 (by decide) (lv' := [(5, .int (v_5 + (c_1 - v_6))), (0, .ref (A 7)), (2, .int c_1), (3, .int c_2), (4, .ref (aO c_3)), (6, .int v_6), (7, .int v_7), (8, .int v_8)]) rfl ?_
                refine g_aload_n X dX8_merge_62 rfl 1 rfl ?_
                refine g_get X (AD := A) cm7 (cE_7 cy A aK σ_9) hin8 rfl 2 (by decide) lk0 (fun _ h9 => h9) rfl dX8_merge_63 ?_
                obtain ⟨hg_50, h⟩ := grd_some h
                refine g_iload X dX8_merge_66 7 rfl ?_
                refine g_aload_n X dX8_merge_68 rfl 1 rfl ?_
                refine g_get X (AD := A) cm7 (cE_7 cy A aK σ_9) hin8 rfl 1 (by decide) lk1 (fun _ h9 => h9) rfl dX8_merge_69 ?_
                obtain ⟨hg_51, h⟩ := grd_some h
                refine g_iload X dX8_merge_72 6 rfl ?_
                obtain ⟨hg_52, h⟩ := grd_some h
                refine g_iald X (AD := A) (isSm.mem hg_51) (cE_sm cy A aK σ_9 hg_51) 0 rfl hg_52 dX8_merge_74 ?_
                obtain ⟨hg_53, h⟩ := grd_some h
                refine g_iast X (AD := A) (σ' := sr σ_9 (gp σ_9 58) (upd (gr σ_9 (gp σ_9 58)) v_8.toNatClampNeg (gr σ_9 (gp σ_9 57) v_7.toNatClampNeg))) (isSm.mem hg_50) (cE_sm cy A aK σ_9 hg_50) 0 rfl hg_53 (st_sm cy A aK σ_9 (upd (gr σ_9 (gp σ_9 58)) v_8.toNatClampNeg (gr σ_9 (gp σ_9 57) v_7.toNatClampNeg)) hg_50) dX8_merge_75 ?_
                obtain ⟨σ_54, e_55, h⟩ := bnd_some h
                have e_55 := Option.some.inj e_55
                rw [e_55]
                refine g_iinc X dX8_merge_76 6 rfl (v := v_7 + (1 : Int32)) rfl (by decide) (lv' := [(7, .int (v_7 + (1 : Int32))), (5, .int (v_5 + (c_1 - v_6))), (0, .ref (A 7)), (2, .int c_1), (3, .int c_2), (4, .ref (aO c_3)), (6, .int v_6), (8, .int v_8)]) rfl ?_
                refine g_goto X (tgt := 99) dX8_merge_79 (by decide) ?_
                cases h
                exact g_sub [2, 3, 4, 5, 1, 6, 0, 7] rfl K_23
    obtain ⟨o_16, σ_15, hl_57, h⟩ := bnd2_some h
    refine g_sub [4, 6, 7, 8, 3, 2, 1, 0] rfl (L_14 a2 a3 a4 h4 FU (0 : Int32) a1 a2 a1 σ o_16 σ_15 hl_57 ?_)
    refine g_iload X dX8_merge_105 0 rfl ?_
    cases h
    exact g_iret (Wf := cW cy A aK X9) X ⟨rfl, rfl⟩ dX8_merge_107
  exact K0
set_option maxHeartbeats 8000000 in
set_option maxRecDepth 100000 in
theorem m_X8_arrange {σ : St} {a1 : Nat} {r : Int32} {σ' : St} (h1 : a1 < 4) (h : f_X8_arrange a1 σ = some (r, σ')) : mI (ZC aK aO aS aV aT) D (cyT cy) l yX8_arrange wsX8_arrange ({ frames := 3, cells := 0, slots := 0, locals := 93 } : Room) (cW cy A aK X9) [.ref (A 7), .ref (aO a1)] σ r σ' := by
  unfold f_X8_arrange at h
  refine mI_of (cc := cX8_arrange) (maxL := 7) (ret := (some .int)) (by decide) rfl (Nat.le_of_ble_eq_true rfl) (fun p e s m args below meth c B X => ?_)
  have hin8 : ∀ w ∈ wsX80, w ∈ wsX8_arrange := by decide +kernel
  have lk0 : Cond.fieldLink RX8 22 "Cardcabinet$Sorter" "size" "I" ∈ wsX8_arrange := by decide +kernel
  have lk1 : Cond.methodLink RX8 35 Lib.Math.min.name ∈ wsX8_arrange := by decide +kernel
  have lk2 : Cond.static Lib.Math.min.name ∈ wsX8_arrange := by decide +kernel
  have lk3 : Cond.initialized "java/lang/Math" ∈ wsX8_arrange := by decide +kernel
  have lk4 : Cond.code Lib.Math.min.name Lib.Math.min.code 2 (some .int) ∈ wsX8_arrange := by decide +kernel
  have lk5 : Cond.fieldLink RX8 9 "Cardcabinet$Sorter" "marks" "[I" ∈ wsX8_arrange := by decide +kernel
  have lk6 : Cond.fieldLink RX8 15 "Cardcabinet$Sorter" "merged" "[I" ∈ wsX8_arrange := by decide +kernel
  have K0 : gG p l e ({ frames := 3, cells := 0, slots := 0, locals := 93 } : Room) s m args below meth c D (cyT cy) B 7 (eI D (cyT cy) (cW cy A aK X9) B below args s r σ') (cW cy A aK X9 σ) 0 0 0 [(0, .ref (A 7)), (1, .ref (aO a1))] [] := by
    refine g_iconst X dX8_arrange_0 (v := (0 : Int32)) (by decide) ?_
    refine g_istore_n X dX8_arrange_1 rfl (by decide) (lv' := [(2, .int (0 : Int32)), (0, .ref (A 7)), (1, .ref (aO a1))]) rfl ?_
    refine g_iconst X dX8_arrange_2 (v := (1 : Int32)) (by decide) ?_
    refine g_istore_n X dX8_arrange_3 rfl (by decide) (lv' := [(3, .int (1 : Int32)), (2, .int (0 : Int32)), (0, .ref (A 7)), (1, .ref (aO a1))]) rfl ?_
    have L_10 : ∀ (c_1 : Nat) (hp_2 : c_1 < 4) (n_6 : Nat) (v_3 : Int32) (v_4 : Int32) (σ_5 : St) (o_12 : Int32) (σ_11 : St), f_X8_arrange_L4 c_1 n_6 v_3 v_4 σ_5 = some (o_12, σ_11) → gG p l e ({ frames := 3, cells := 0, slots := 0, locals := 93 } : Room) s m args below meth c D (cyT cy) B 7 (eI D (cyT cy) (cW cy A aK X9) B below args s r σ') (cW cy A aK X9 σ_11) 0 0 102 [(2, .int o_12)] [] → gG p l e ({ frames := 3, cells := 0, slots := 0, locals := 93 } : Room) s m args below meth c D (cyT cy) B 7 (eI D (cyT cy) (cW cy A aK X9) B below args s r σ') (cW cy A aK X9 σ_5) 0 0 4 [(0, .ref (A 7)), (1, .ref (aO c_1)), (2, .int v_3), (3, .int v_4)] [] := by
      intro c_1 hp_2 n_6
      induction n_6 with
      | zero =>
        intro v_3 v_4 σ_5 o_12 σ_11 h K_8
        rw [f_X8_arrange_L4] at h
        cases h
      | succ n_6 ih_7 =>
        intro v_3 v_4 σ_5 o_12 σ_11 h K_8
        rw [f_X8_arrange_L4] at h
        refine g_iload_n X dX8_arrange_4 rfl 3 rfl ?_
        refine g_aload_n X dX8_arrange_5 rfl 0 rfl ?_
        refine g_get X (AD := A) cm7 (cE_7 cy A aK σ_5) hin8 rfl 3 (by decide) lk0 (fun _ h9 => h9) rfl dX8_arrange_6 ?_
        refine g_icmp_ge X (tgt := 102) dX8_arrange_9 (by decide) (fun hc_13 => ?_) (fun hc_13 => ?_)
        · have h := ift hc_13 h
          cases h
          exact g_sub [2] rfl K_8
        · have h := iff_ hc_13 h
          refine g_iconst X dX8_arrange_12 (v := (0 : Int32)) (by decide) ?_
          refine g_istore X dX8_arrange_13 (by decide) (lv' := [(4, .int (0 : Int32)), (0, .ref (A 7)), (1, .ref (aO c_1)), (2, .int v_3), (3, .int v_4)]) rfl ?_
          have L_24 : ∀ (c_14 : Nat) (hp_15 : c_14 < 4) (c_17 : Int32) (n_20 : Nat) (v_16 : Int32) (v_18 : Int32) (σ_19 : St) (o_26 : Int32) (σ_25 : St), f_X8_arrange_L15 c_14 c_17 n_20 v_16 v_18 σ_19 = some (o_26, σ_25) → gG p l e ({ frames := 3, cells := 0, slots := 0, locals := 93 } : Room) s m args below meth c D (cyT cy) B 7 (eI D (cyT cy) (cW cy A aK X9) B below args s r σ') (cW cy A aK X9 σ_25) 0 0 75 [(0, .ref (A 7)), (1, .ref (aO c_14)), (2, .int o_26), (3, .int c_17)] [] → gG p l e ({ frames := 3, cells := 0, slots := 0, locals := 93 } : Room) s m args below meth c D (cyT cy) B 7 (eI D (cyT cy) (cW cy A aK X9) B below args s r σ') (cW cy A aK X9 σ_19) 0 0 15 [(0, .ref (A 7)), (1, .ref (aO c_14)), (2, .int v_16), (3, .int c_17), (4, .int v_18)] [] := by
            intro c_14 hp_15 c_17 n_20
            induction n_20 with
            | zero =>
              intro v_16 v_18 σ_19 o_26 σ_25 h K_22
              rw [f_X8_arrange_L15] at h
              cases h
            | succ n_20 ih_21 =>
              intro v_16 v_18 σ_19 o_26 σ_25 h K_22
              rw [f_X8_arrange_L15] at h
              refine g_iload X dX8_arrange_15 4 rfl ?_
              refine g_aload_n X dX8_arrange_17 rfl 0 rfl ?_
              refine g_get X (AD := A) cm7 (cE_7 cy A aK σ_19) hin8 rfl 3 (by decide) lk0 (fun _ h9 => h9) rfl dX8_arrange_18 ?_
              refine g_icmp_ge X (tgt := 75) dX8_arrange_21 (by decide) (fun hc_27 => ?_) (fun hc_27 => ?_)
              · have h := ift hc_27 h
                cases h
                exact g_sub [0, 1, 2, 3] rfl K_22
              · have h := iff_ hc_27 h
                refine g_iload X dX8_arrange_24 4 rfl ?_
                refine g_iload_n X dX8_arrange_26 rfl 3 rfl ?_
                refine g_iadd X dX8_arrange_27 ?_
                refine g_aload_n X dX8_arrange_28 rfl 0 rfl ?_
                refine g_get X (AD := A) cm7 (cE_7 cy A aK σ_19) hin8 rfl 3 (by decide) lk0 (fun _ h9 => h9) rfl dX8_arrange_29 ?_
                refine g_min X lk1 lk2 lk3 lk4 (Nat.le_of_ble_eq_true rfl) (Nat.le_of_ble_eq_true rfl) ⟨Nat.zero_le _, Nat.zero_le _⟩ dX8_arrange_32 ?_
                refine g_istore X dX8_arrange_35 (by decide) (lv' := [(5, .int (if (gi σ_19 59) < (v_18 + c_17) then (gi σ_19 59) else (v_18 + c_17))), (0, .ref (A 7)), (1, .ref (aO c_14)), (2, .int v_16), (3, .int c_17), (4, .int v_18)]) rfl ?_
                refine g_iload X dX8_arrange_37 0 rfl ?_
                refine g_iload_n X dX8_arrange_39 rfl 4 rfl ?_
                refine g_iadd X dX8_arrange_40 ?_
                refine g_aload_n X dX8_arrange_41 rfl 1 rfl ?_
                refine g_get X (AD := A) cm7 (cE_7 cy A aK σ_19) hin8 rfl 3 (by decide) lk0 (fun _ h9 => h9) rfl dX8_arrange_42 ?_
                refine g_min X lk1 lk2 lk3 lk4 (Nat.le_of_ble_eq_true rfl) (Nat.le_of_ble_eq_true rfl) ⟨Nat.zero_le _, Nat.zero_le _⟩ dX8_arrange_45 ?_
                refine g_istore X dX8_arrange_48 (by decide) (lv' := [(6, .int (if (gi σ_19 59) < ((if (gi σ_19 59) < (v_18 + c_17) then (gi σ_19 59) else (v_18 + c_17)) + c_17) then (gi σ_19 59) else ((if (gi σ_19 59) < (v_18 + c_17) then (gi σ_19 59) else (v_18 + c_17)) + c_17))), (5, .int (if (gi σ_19 59) < (v_18 + c_17) then (gi σ_19 59) else (v_18 + c_17))), (0, .ref (A 7)), (1, .ref (aO c_14)), (2, .int v_16), (3, .int c_17), (4, .int v_18)]) rfl ?_
                refine g_iload_n X dX8_arrange_50 rfl 4 rfl ?_
                refine g_aload_n X dX8_arrange_51 rfl 2 rfl ?_
                refine g_iload X dX8_arrange_52 6 rfl ?_
                refine g_iload X dX8_arrange_54 1 rfl ?_
                refine g_iload X dX8_arrange_56 0 rfl ?_
                refine g_aload_n X dX8_arrange_58 rfl 3 rfl ?_
                obtain ⟨r_29, σ_30, hf_28, h⟩ := bnd2_some h
                refine g_callVI (AD := A) (As := [.int v_18, .int (if (gi σ_19 59) < (v_18 + c_17) then (gi σ_19 59) else (v_18 + c_17)), .int (if (gi σ_19 59) < ((if (gi σ_19 59) < (v_18 + c_17) then (gi σ_19 59) else (v_18 + c_17)) + c_17) then (gi σ_19 59) else ((if (gi σ_19 59) < (v_18 + c_17) then (gi σ_19 59) else (v_18 + c_17)) + c_17)), .ref (aO c_14)]) X (ZC_ok _ _ _ _ _) (m_X8_merge hp_15 hf_28) (cwV 4 X.1.2.2.2.2 gX8_arrange_X8_merge rfl rfl rfl (by decide +kernel) ⟨Nat.le_of_ble_eq_true rfl, Nat.le_of_ble_eq_true rfl⟩) rfl cm7 (cE_7 cy A aK σ_19) rfl rfl (Nat.le_of_ble_eq_true rfl) ⟨Nat.zero_le _, Nat.zero_le _⟩ dX8_arrange_59 ?_
                refine g_iadd X dX8_arrange_62 ?_
                refine g_istore_n X dX8_arrange_63 rfl (by decide) (lv' := [(2, .int (v_16 + r_29)), (6, .int (if (gi σ_19 59) < ((if (gi σ_19 59) < (v_18 + c_17) then (gi σ_19 59) else (v_18 + c_17)) + c_17) then (gi σ_19 59) else ((if (gi σ_19 59) < (v_18 + c_17) then (gi σ_19 59) else (v_18 + c_17)) + c_17))), (5, .int (if (gi σ_19 59) < (v_18 + c_17) then (gi σ_19 59) else (v_18 + c_17))), (0, .ref (A 7)), (1, .ref (aO c_14)), (3, .int c_17), (4, .int v_18)]) rfl ?_
                refine g_iload X dX8_arrange_64 6 rfl ?_
                refine g_iconst X dX8_arrange_66 (v := (2 : Int32)) (by decide) ?_
                refine g_iload_n X dX8_arrange_67 rfl 5 rfl ?_
                refine g_imul X dX8_arrange_68 ?_
                refine g_iadd X dX8_arrange_69 ?_
                refine g_istore X dX8_arrange_70 (by decide) (lv' := [(4, .int (v_18 + ((2 : Int32) * c_17))), (2, .int (v_16 + r_29)), (6, .int (if (gi σ_19 59) < ((if (gi σ_19 59) < (v_18 + c_17) then (gi σ_19 59) else (v_18 + c_17)) + c_17) then (gi σ_19 59) else ((if (gi σ_19 59) < (v_18 + c_17) then (gi σ_19 59) else (v_18 + c_17)) + c_17))), (5, .int (if (gi σ_19 59) < (v_18 + c_17) then (gi σ_19 59) else (v_18 + c_17))), (0, .ref (A 7)), (1, .ref (aO c_14)), (3, .int c_17)]) rfl ?_
                refine g_goto X (tgt := 15) dX8_arrange_72 (by decide) ?_
                exact g_sub [4, 5, 1, 6, 0] rfl (ih_21 _ _ _ _ _ h K_22)
          obtain ⟨o_26, σ_25, hl_31, h⟩ := bnd2_some h
          refine g_sub [1, 2, 3, 4, 0] rfl (L_24 c_1 hp_2 v_4 FU v_3 (0 : Int32) σ_5 o_26 σ_25 hl_31 ?_)
          refine g_aload_n X dX8_arrange_75 rfl 0 rfl ?_
          refine g_get X (AD := A) cm7 (cE_7 cy A aK σ_25) hin8 rfl 1 (by decide) lk5 (fun _ h9 => h9) rfl dX8_arrange_76 ?_
          obtain ⟨hg_32, h⟩ := grd_some h
          refine g_astore X dX8_arrange_79 (by decide) (lv' := [(4, .ref (A (gp σ_25 57))), (0, .ref (A 7)), (1, .ref (aO c_1)), (2, .int o_26), (3, .int v_4)]) rfl ?_
          refine g_aload_n X dX8_arrange_81 rfl 1 rfl ?_
          refine g_aload_n X dX8_arrange_82 rfl 1 rfl ?_
          refine g_get X (AD := A) cm7 (cE_7 cy A aK σ_25) hin8 rfl 2 (by decide) lk6 (fun _ h9 => h9) rfl dX8_arrange_83 ?_
          obtain ⟨hg_33, h⟩ := grd_some h
          refine g_put X (AD := A) (ty := (.array .int)) (v := .ref (A (gp σ_25 58))) (σ' := sp σ_25 57 (gp σ_25 58)) cm7 (cE_7 cy A aK σ_25) hin8 rfl tyX8 tyX8_ok nmX8 1 (by decide) lk5 (fun _ h9 => h9) rfl (by decide +kernel) rfl rfl (Nat.le_of_ble_eq_true rfl) (sf_p57 cy A aK σ_25 (gp σ_25 58)) dX8_arrange_86 ?_
          refine g_aload_n X dX8_arrange_89 rfl 1 rfl ?_
          refine g_aload X dX8_arrange_90 0 rfl ?_
          refine g_put X (AD := A) (ty := (.array .int)) (v := .ref (A (gp σ_25 57))) (σ' := sp (sp σ_25 57 (gp σ_25 58)) 58 (gp σ_25 57)) cm7 (cE_7 cy A aK (sp σ_25 57 (gp σ_25 58))) hin8 rfl tyX8 tyX8_ok nmX8 2 (by decide) lk6 (fun _ h9 => h9) rfl (by decide +kernel) rfl rfl (Nat.le_of_ble_eq_true rfl) (sf_p58 cy A aK (sp σ_25 57 (gp σ_25 58)) (gp σ_25 57)) dX8_arrange_92 ?_
          obtain ⟨σ_34, e_35, h⟩ := bnd_some h
          have e_35 := Option.some.inj e_35
          rw [e_35]
          refine g_iload_n X dX8_arrange_95 rfl 4 rfl ?_
          refine g_iconst X dX8_arrange_96 (v := (2 : Int32)) (by decide) ?_
          refine g_imul X dX8_arrange_97 ?_
          refine g_istore_n X dX8_arrange_98 rfl (by decide) (lv' := [(3, .int (v_4 * (2 : Int32))), (4, .ref (A (gp σ_25 57))), (0, .ref (A 7)), (1, .ref (aO c_1)), (2, .int o_26)]) rfl ?_
          refine g_goto X (tgt := 4) dX8_arrange_99 (by decide) ?_
          exact g_sub [2, 3, 4, 0] rfl (ih_7 _ _ _ _ _ h K_8)
    obtain ⟨o_12, σ_11, hl_36, h⟩ := bnd2_some h
    refine g_sub [2, 3, 1, 0] rfl (L_10 a1 h1 FU (0 : Int32) (1 : Int32) σ o_12 σ_11 hl_36 ?_)
    refine g_iload_n X dX8_arrange_102 rfl 0 rfl ?_
    cases h
    exact g_iret (Wf := cW cy A aK X9) X ⟨rfl, rfl⟩ dX8_arrange_103
  exact K0
set_option maxHeartbeats 8000000 in
set_option maxRecDepth 100000 in
theorem m_X9_bytesIn {σ : St} {a1 : Int64} {r : Int32} (h : f_X9_bytesIn a1 = some r) : mI (ZC aK aO aS aV aT) D (cyT cy) l yX9_bytesIn wsX9_bytesIn ({ frames := 0, cells := 0, slots := 0, locals := 0 } : Room) (cW cy A aK X9) [.long a1] σ r σ := by
  unfold f_X9_bytesIn at h
  refine mI_of (cc := cX9_bytesIn) (maxL := 4) (ret := (some .int)) (by decide) rfl (Nat.le_of_ble_eq_true rfl) (fun p e s m args below meth c B X => ?_)
  have K0 : gG p l e ({ frames := 0, cells := 0, slots := 0, locals := 0 } : Room) s m args below meth c D (cyT cy) B 4 (eI D (cyT cy) (cW cy A aK X9) B below args s r σ) (cW cy A aK X9 σ) 0 0 0 [(0, .long a1)] [] := by
    refine g_iconst X dX9_bytesIn_0 (v := (0 : Int32)) (by decide) ?_
    refine g_istore_n X dX9_bytesIn_1 rfl (by decide) (lv' := [(2, .int (0 : Int32)), (0, .long a1)]) rfl ?_
    refine g_bipush X dX9_bytesIn_2 (v := (56 : Int32)) (by decide) ?_
    refine g_istore_n X dX9_bytesIn_4 rfl (by decide) (lv' := [(3, .int (56 : Int32)), (2, .int (0 : Int32)), (0, .long a1)]) rfl ?_
    have L_9 : ∀ (c_1 : Int64) (σ_4 : St) (hq_11 : σ_4 = σ) (n_5 : Nat) (v_2 : Int32) (v_3 : Int32) (o_10 : Int32), f_X9_bytesIn_L5 c_1 n_5 v_2 v_3 = some (o_10) → gG p l e ({ frames := 0, cells := 0, slots := 0, locals := 0 } : Room) s m args below meth c D (cyT cy) B 4 (eI D (cyT cy) (cW cy A aK X9) B below args s r σ) (cW cy A aK X9 σ_4) 0 0 26 [(2, .int o_10)] [] → gG p l e ({ frames := 0, cells := 0, slots := 0, locals := 0 } : Room) s m args below meth c D (cyT cy) B 4 (eI D (cyT cy) (cW cy A aK X9) B below args s r σ) (cW cy A aK X9 σ_4) 0 0 5 [(0, .long c_1), (2, .int v_2), (3, .int v_3)] [] := by
      intro c_1 σ_4 hq_11 n_5
      induction n_5 with
      | zero =>
        intro v_2 v_3 o_10 h K_7
        rw [f_X9_bytesIn_L5] at h
        cases h
      | succ n_5 ih_6 =>
        intro v_2 v_3 o_10 h K_7
        rw [f_X9_bytesIn_L5] at h
        refine g_iload_n X dX9_bytesIn_5 rfl 2 rfl ?_
        refine g_if_lt X (tgt := 26) dX9_bytesIn_6 (by decide) (fun hc_12 => ?_) (fun hc_12 => ?_)
        · have h := ift hc_12 h
          cases h
          exact g_sub [1] rfl K_7
        · have h := iff_ hc_12 h
          refine g_lload_n X dX9_bytesIn_9 rfl 0 rfl ?_
          refine g_iload_n X dX9_bytesIn_10 rfl 2 rfl ?_
          refine g_lushr X dX9_bytesIn_11 ?_
          refine g_l2i X dX9_bytesIn_12 ?_
          refine g_i2b X dX9_bytesIn_13 ?_
          obtain ⟨v_14, hj_16, h⟩ := bnd_some h
          have K_15 : gG p l e ({ frames := 0, cells := 0, slots := 0, locals := 0 } : Room) s m args below meth c D (cyT cy) B 4 (eI D (cyT cy) (cW cy A aK X9) B below args s r σ) (cW cy A aK X9 σ_4) 0 0 20 [(0, .long c_1), (2, .int v_14), (3, .int v_3)] [] := by
            refine g_iinc X dX9_bytesIn_20 2 rfl (v := v_3 + (-8 : Int32)) rfl (by decide) (lv' := [(3, .int (v_3 + (-8 : Int32))), (0, .long c_1), (2, .int v_14)]) rfl ?_
            refine g_goto X (tgt := 5) dX9_bytesIn_23 (by decide) ?_
            exact g_sub [1, 2, 0] rfl (ih_6 _ _ _ h K_7)
          have h := hj_16
          clear hj_16
          refine g_if_eq X (tgt := 20) dX9_bytesIn_14 (by decide) (fun hc_13 => ?_) (fun hc_13 => ?_)
          · have h := ift hc_13 h
            cases h
            exact g_sub [0, 1, 2] rfl K_15
          · have h := iff_ hc_13 h
            refine g_iinc X dX9_bytesIn_17 1 rfl (v := v_2 + (1 : Int32)) rfl (by decide) (lv' := [(2, .int (v_2 + (1 : Int32))), (0, .long c_1), (3, .int v_3)]) rfl ?_
            cases h
            exact g_sub [1, 0, 2] rfl K_15
    obtain ⟨o_10, hl_17, h⟩ := bnd_some h
    refine g_sub [2, 1, 0] rfl (L_9 a1 σ rfl FU (0 : Int32) (56 : Int32) o_10 hl_17 ?_)
    refine g_iload_n X dX9_bytesIn_26 rfl 0 rfl ?_
    cases h
    exact g_iret (Wf := cW cy A aK X9) X ⟨rfl, rfl⟩ dX9_bytesIn_27
  exact K0
set_option maxHeartbeats 8000000 in
set_option maxRecDepth 100000 in
theorem m_X9_append {σ : St} {a1 : Int64} {σ' : St} (h : f_X9_append a1 σ = some σ') : mV (ZC aK aO aS aV aT) D (cyT cy) l yX9_append wsX9_append ({ frames := 0, cells := 0, slots := 0, locals := 0 } : Room) (cW cy A aK X9) [.ref (A 10), .long a1] σ σ' := by
  unfold f_X9_append at h
  refine mV_of (cc := cX9_append) (maxL := 5) (ret := none) (by decide) rfl (Nat.le_of_ble_eq_true rfl) (fun p e s m args below meth c B X => ?_)
  have hin9 : ∀ w ∈ wsX90, w ∈ wsX9_append := by decide +kernel
  have lk0 : Cond.fieldLink RX9 15 "Cardcabinet$Text" "length" "I" ∈ wsX9_append := by decide +kernel
  have lk1 : Cond.fieldLink RX9 9 "Cardcabinet$Text" "bytes" "[B" ∈ wsX9_append := by decide +kernel
  have K0 : gG p l e ({ frames := 0, cells := 0, slots := 0, locals := 0 } : Room) s m args below meth c D (cyT cy) B 5 (eV D (cyT cy) (cW cy A aK X9) B below args s σ') (cW cy A aK X9 σ) 0 0 0 [(0, .ref (A 10)), (1, .long a1)] [] := by
    refine g_bipush X dX9_append_0 (v := (56 : Int32)) (by decide) ?_
    refine g_istore_n X dX9_append_2 rfl (by decide) (lv' := [(3, .int (56 : Int32)), (0, .ref (A 10)), (1, .long a1)]) rfl ?_
    have L_8 : ∀ (c_1 : Int64) (n_4 : Nat) (v_2 : Int32) (σ_3 : St) (σ_9 : St), f_X9_append_L3 c_1 n_4 v_2 σ_3 = some (σ_9) → gG p l e ({ frames := 0, cells := 0, slots := 0, locals := 0 } : Room) s m args below meth c D (cyT cy) B 5 (eV D (cyT cy) (cW cy A aK X9) B below args s σ') (cW cy A aK X9 σ_9) 0 0 56 [] [] → gG p l e ({ frames := 0, cells := 0, slots := 0, locals := 0 } : Room) s m args below meth c D (cyT cy) B 5 (eV D (cyT cy) (cW cy A aK X9) B below args s σ') (cW cy A aK X9 σ_3) 0 0 3 [(0, .ref (A 10)), (1, .long c_1), (3, .int v_2)] [] := by
      intro c_1 n_4
      induction n_4 with
      | zero =>
        intro v_2 σ_3 σ_9 h K_6
        rw [f_X9_append_L3] at h
        cases h
      | succ n_4 ih_5 =>
        intro v_2 σ_3 σ_9 h K_6
        rw [f_X9_append_L3] at h
        refine g_iload_n X dX9_append_3 rfl 2 rfl ?_
        refine g_if_lt X (tgt := 56) dX9_append_4 (by decide) (fun hc_10 => ?_) (fun hc_10 => ?_)
        · have h := ift hc_10 h
          cases h
          exact g_sub [] rfl K_6
        · have h := iff_ hc_10 h
          refine g_lload_n X dX9_append_7 rfl 1 rfl ?_
          refine g_iload_n X dX9_append_8 rfl 2 rfl ?_
          refine g_lushr X dX9_append_9 ?_
          refine g_l2i X dX9_append_10 ?_
          refine g_i2b X dX9_append_11 ?_
          refine g_istore X dX9_append_12 (by decide) (lv' := [(4, .int ((((c_1.toUInt64 >>> (v_2.toInt64.toUInt64 &&& Int64.toUInt64 63)).toInt64).toInt32).toInt8.toInt32)), (0, .ref (A 10)), (1, .long c_1), (3, .int v_2)]) rfl ?_
          refine g_iload X dX9_append_14 0 rfl ?_
          obtain ⟨σ_12, hj_18, h⟩ := bnd_some h
          have K_13 : gG p l e ({ frames := 0, cells := 0, slots := 0, locals := 0 } : Room) s m args below meth c D (cyT cy) B 5 (eV D (cyT cy) (cW cy A aK X9) B below args s σ') (cW cy A aK X9 σ_12) 0 0 50 [(0, .ref (A 10)), (1, .long c_1), (3, .int v_2)] [] := by
            refine g_iinc X dX9_append_50 2 rfl (v := v_2 + (-8 : Int32)) rfl (by decide) (lv' := [(3, .int (v_2 + (-8 : Int32))), (0, .ref (A 10)), (1, .long c_1)]) rfl ?_
            refine g_goto X (tgt := 3) dX9_append_53 (by decide) ?_
            exact g_sub [1, 2, 0] rfl (ih_5 _ _ _ h K_6)
          have h := hj_18
          clear hj_18
          refine g_if_eq X (tgt := 50) dX9_append_16 (by decide) (fun hc_11 => ?_) (fun hc_11 => ?_)
          · have h := ift hc_11 h
            cases h
            exact g_sub [1, 2, 3] rfl K_13
          · have h := iff_ hc_11 h
            refine g_aload_n X dX9_append_19 rfl 1 rfl ?_
            refine g_get X (AD := A) cm10 (cE_10 cy A aK σ_3) hin9 rfl 1 (by decide) lk0 (fun _ h9 => h9) rfl dX9_append_20 ?_
            refine g_sipush X dX9_append_23 (v := (400 : Int32)) (by decide) ?_
            refine g_icmp_ge X (tgt := 50) dX9_append_26 (by decide) (fun hc_14 => ?_) (fun hc_14 => ?_)
            · have h := ift hc_14 h
              cases h
              exact g_sub [1, 2, 3] rfl K_13
            · have h := iff_ hc_14 h
              refine g_aload_n X dX9_append_29 rfl 1 rfl ?_
              refine g_get X (AD := A) cm10 (cE_10 cy A aK σ_3) hin9 rfl 0 (by decide) lk1 (fun _ h9 => h9) rfl dX9_append_30 ?_
              refine g_aload_n X dX9_append_33 rfl 1 rfl ?_
              refine g_get X (AD := A) cm10 (cE_10 cy A aK σ_3) hin9 rfl 1 (by decide) lk0 (fun _ h9 => h9) rfl dX9_append_34 ?_
              refine g_iload X dX9_append_37 0 rfl ?_
              obtain ⟨hg_15, h⟩ := grd_some h
              refine g_bast X (AD := A) (σ' := sr σ_3 11 (upd (gr σ_3 11) (gi σ_3 81).toNatClampNeg (vp_nar .byte ((((c_1.toUInt64 >>> (v_2.toInt64.toUInt64 &&& Int64.toUInt64 63)).toInt64).toInt32).toInt8.toInt32)))) cm11 (cE_11 cy A aK σ_3) 1 rfl hg_15 (st_c11 cy A aK σ_3 (upd (gr σ_3 11) (gi σ_3 81).toNatClampNeg (vp_nar .byte ((((c_1.toUInt64 >>> (v_2.toInt64.toUInt64 &&& Int64.toUInt64 63)).toInt64).toInt32).toInt8.toInt32)))) dX9_append_39 ?_
              obtain ⟨σ_16, e_17, h⟩ := bnd_some h
              have e_17 := Option.some.inj e_17
              rw [e_17]
              refine g_aload_n X dX9_append_40 rfl 1 rfl ?_
              refine g_dup X dX9_append_41 rfl ?_
              refine g_get X (AD := A) cm10 (cE_10 cy A aK σ_16) hin9 rfl 1 (by decide) lk0 (fun _ h9 => h9) rfl dX9_append_42 ?_
              refine g_iconst X dX9_append_45 (v := (1 : Int32)) (by decide) ?_
              refine g_iadd X dX9_append_46 ?_
              refine g_put X (AD := A) (ty := .int) (v := .int ((gi σ_16 81) + (1 : Int32))) (σ' := si σ_16 81 ((gi σ_16 81) + (1 : Int32))) cm10 (cE_10 cy A aK σ_16) hin9 rfl tyX9 tyX9_ok nmX9 1 (by decide) lk0 (fun _ h9 => h9) rfl (by decide +kernel) rfl rfl (Nat.le_of_ble_eq_true rfl) (sf_c81 cy A aK σ_16 ((gi σ_16 81) + (1 : Int32))) dX9_append_47 ?_
              cases h
              exact g_sub [1, 2, 3] rfl K_13
    obtain ⟨σ_9, hl_19, h⟩ := bnd_some h
    refine g_sub [1, 2, 0] rfl (L_8 a1 FU (56 : Int32) σ σ_9 hl_19 ?_)
    cases h
    exact g_vret (Wf := cW cy A aK X9) X rfl dX9_append_56
  exact K0
set_option maxHeartbeats 8000000 in
set_option maxRecDepth 100000 in
theorem m_X10_type {σ : St} {a1 : Int64} {r : String ⊕ Int32} {σ' : St} (hl : l.stackTraces = false) (h : f_X10_type a1 σ = some (r, σ')) : xI (ZC aK aO aS aV aT) D (cyT cy) l yX10_type wsX10_type ({ frames := 6, cells := thrC r, slots := thrS r, locals := 130 } : Room) (cW cy A aK X9) [.ref (A 0), .long a1] σ r σ' (thrC r) (thrS r) := by
  unfold f_X10_type at h
  refine xI_of (cc := cX10_type) (maxL := 3) (ret := (some .int)) (by decide) rfl (Nat.le_of_ble_eq_true rfl) (fun p e s m args below meth c B X hx0 => ?_)
  have hin10 : ∀ w ∈ wsX100, w ∈ wsX10_type := by decide +kernel
  have hin9 : ∀ w ∈ wsX90, w ∈ wsX10_type := by decide +kernel
  have lk0 : Cond.fieldLink RX10 49 "Cardcabinet" "text" "LCardcabinet$Text;" ∈ wsX10_type := by decide +kernel
  have lk1 : Cond.fieldLink RX10 69 "Cardcabinet$Text" "length" "I" ∈ wsX10_type := by decide +kernel
  have lk2 : Cond.classLink RX10 77 "java/lang/IllegalStateException" ∈ wsX10_type := by decide +kernel
  have lk3 : Cond.initialized "java/lang/IllegalStateException" ∈ wsX10_type := by decide +kernel
  have lk4 : ∀ w ∈ (vx_atS RX10 81 "java/lang/IllegalStateException" ["java/lang/RuntimeException", "java/lang/Exception"]).filter goodWord, w ∈ wsX10_type := by decide +kernel
  have K0 : gG p l e ({ frames := 6, cells := thrC r, slots := thrS r, locals := 130 } : Room) s m args below meth c D (cyT cy) B 3 (xeI D (cyT cy) (cW cy A aK X9) B below args s r σ' (thrC r) (thrS r)) (cW cy A aK X9 σ) 0 0 0 [(0, .ref (A 0)), (1, .long a1)] [] := by
    refine g_aload_n X dX10_type_0 rfl 0 rfl ?_
    refine g_get X (AD := A) cm0 (cE_0 cy A aK σ) hin10 rfl 7 (by decide) lk0 (fun _ h9 => h9) rfl dX10_type_1 ?_
    refine g_get X (AD := A) cm10 (cE_10 cy A aK σ) hin9 rfl 1 (by decide) lk1 (fun _ h9 => h9) rfl dX10_type_4 ?_
    refine g_lload_n X dX10_type_7 rfl 1 rfl ?_
    obtain ⟨r_2, hf_1, h⟩ := bnd_some h
    refine g_callSI (AD := A) (As := [.long a1]) X (ZC_ok _ _ _ _ _) (m_X9_bytesIn hf_1) (va_cwS 1 X.1.2.2.2.2 gX10_type_X9_bytesIn rfl rfl rfl (by decide +kernel) ⟨Nat.le_of_ble_eq_true rfl, Nat.le_of_ble_eq_true rfl⟩) rfl rfl (Nat.le_of_ble_eq_true rfl) ⟨Nat.zero_le _, Nat.zero_le _⟩ dX10_type_8 ?_
    refine g_iadd X dX10_type_11 ?_
    refine g_sipush X dX10_type_12 (v := (400 : Int32)) (by decide) ?_
    refine g_icmp_le X (tgt := 28) dX10_type_15 (by decide) (fun hc_3 => ?_) (fun hc_3 => ?_)
    · have h := ift hc_3 h
      refine g_aload_n X dX10_type_28 rfl 0 rfl ?_
      refine g_get X (AD := A) cm0 (cE_0 cy A aK σ) hin10 rfl 7 (by decide) lk0 (fun _ h9 => h9) rfl dX10_type_29 ?_
      refine g_lload_n X dX10_type_32 rfl 1 rfl ?_
      obtain ⟨σ_5, hf_4, h⟩ := bnd_some h
      refine g_callVV (AD := A) (As := [.long a1]) X (ZC_ok _ _ _ _ _) (m_X9_append hf_4) (cwV 1 X.1.2.2.2.2 gX10_type_X9_append rfl rfl rfl (by decide +kernel) ⟨Nat.le_of_ble_eq_true rfl, Nat.le_of_ble_eq_true rfl⟩) rfl cm10 (cE_10 cy A aK σ) rfl rfl (Nat.le_of_ble_eq_true rfl) ⟨Nat.zero_le _, Nat.zero_le _⟩ dX10_type_33 ?_
      refine g_aload_n X dX10_type_36 rfl 0 rfl ?_
      refine g_get X (AD := A) cm0 (cE_0 cy A aK σ_5) hin10 rfl 7 (by decide) lk0 (fun _ h9 => h9) rfl dX10_type_37 ?_
      refine g_get X (AD := A) cm10 (cE_10 cy A aK σ_5) hin9 rfl 1 (by decide) lk1 (fun _ h9 => h9) rfl dX10_type_40 ?_
      cases h
      exact g_xret (g_iret (Wf := cW cy A aK X9) X ⟨rfl, rfl⟩ dX10_type_43)
    · have h := iff_ hc_3 h
      cases h
      exact g_thr_ISE (AD := A) X hl hx0 (is9 := 79) (tx := "the text would be too long") (by decide) lk2 lk3 lk4 dX10_type_18 dX10_type_21 dX10_type_22 dX10_type_24 dX10_type_27 (by decide) (Nat.le_of_ble_eq_true rfl) ⟨thrC_t (β := Int32) "", thrS_t (β := Int32) ""⟩ rfl rfl (thrC_t (β := Int32) "") (thrS_t (β := Int32) "")
  exact K0
set_option maxHeartbeats 8000000 in
set_option maxRecDepth 100000 in
theorem m_X10_clearText {σ : St} {r : Int32} {σ' : St} (h : f_X10_clearText σ = some (r, σ')) : mI (ZC aK aO aS aV aT) D (cyT cy) l yX10_clearText wsX10_clearText ({ frames := 0, cells := 0, slots := 0, locals := 0 } : Room) (cW cy A aK X9) [.ref (A 0)] σ r σ' := by
  unfold f_X10_clearText at h
  refine mI_of (cc := cX10_clearText) (maxL := 2) (ret := (some .int)) (by decide) rfl (Nat.le_of_ble_eq_true rfl) (fun p e s m args below meth c B X => ?_)
  have hin10 : ∀ w ∈ wsX100, w ∈ wsX10_clearText := by decide +kernel
  have hin9 : ∀ w ∈ wsX90, w ∈ wsX10_clearText := by decide +kernel
  have lk0 : Cond.fieldLink RX10 49 "Cardcabinet" "text" "LCardcabinet$Text;" ∈ wsX10_clearText := by decide +kernel
  have lk1 : Cond.fieldLink RX10 69 "Cardcabinet$Text" "length" "I" ∈ wsX10_clearText := by decide +kernel
  have K0 : gG p l e ({ frames := 0, cells := 0, slots := 0, locals := 0 } : Room) s m args below meth c D (cyT cy) B 2 (eI D (cyT cy) (cW cy A aK X9) B below args s r σ') (cW cy A aK X9 σ) 0 0 0 [(0, .ref (A 0))] [] := by
    refine g_aload_n X dX10_clearText_0 rfl 0 rfl ?_
    refine g_get X (AD := A) cm0 (cE_0 cy A aK σ) hin10 rfl 7 (by decide) lk0 (fun _ h9 => h9) rfl dX10_clearText_1 ?_
    refine g_get X (AD := A) cm10 (cE_10 cy A aK σ) hin9 rfl 1 (by decide) lk1 (fun _ h9 => h9) rfl dX10_clearText_4 ?_
    refine g_istore_n X dX10_clearText_7 rfl (by decide) (lv' := [(1, .int (gi σ 81)), (0, .ref (A 0))]) rfl ?_
    refine g_aload_n X dX10_clearText_8 rfl 1 rfl ?_
    refine g_get X (AD := A) cm0 (cE_0 cy A aK σ) hin10 rfl 7 (by decide) lk0 (fun _ h9 => h9) rfl dX10_clearText_9 ?_
    refine g_iconst X dX10_clearText_12 (v := (0 : Int32)) (by decide) ?_
    refine g_put X (AD := A) (ty := .int) (v := .int (0 : Int32)) (σ' := si σ 81 (0 : Int32)) cm10 (cE_10 cy A aK σ) hin9 rfl tyX9 tyX9_ok nmX9 1 (by decide) lk1 (fun _ h9 => h9) rfl (by decide +kernel) rfl rfl (Nat.le_of_ble_eq_true rfl) (sf_c81 cy A aK σ (0 : Int32)) dX10_clearText_13 ?_
    refine g_iload_n X dX10_clearText_16 rfl 0 rfl ?_
    cases h
    exact g_iret (Wf := cW cy A aK X9) X ⟨rfl, rfl⟩ dX10_clearText_17
  exact K0
set_option maxHeartbeats 8000000 in
set_option maxRecDepth 100000 in
theorem m_X10_fault {σ : St} {r : Int32} {σ' : St} (h : f_X10_fault σ = some (r, σ')) : mI (ZC aK aO aS aV aT) D (cyT cy) l yX10_fault wsX10_fault ({ frames := 11, cells := 0, slots := 0, locals := 287 } : Room) (cW cy A aK X9) [.ref (A 0)] σ r σ' := by
  unfold f_X10_fault at h
  refine mI_of (cc := cX10_fault) (maxL := 1) (ret := (some .int)) (by decide) rfl (Nat.le_of_ble_eq_true rfl) (fun p e s m args below meth c B X => ?_)
  have hin10 : ∀ w ∈ wsX100, w ∈ wsX10_fault := by decide +kernel
  have lk0 : Cond.fieldLink RX10 58 "Cardcabinet" "parser" "LCardcabinet$Parser;" ∈ wsX10_fault := by decide +kernel
  have K0 : gG p l e ({ frames := 11, cells := 0, slots := 0, locals := 287 } : Room) s m args below meth c D (cyT cy) B 1 (eI D (cyT cy) (cW cy A aK X9) B below args s r σ') (cW cy A aK X9 σ) 0 0 0 [(0, .ref (A 0))] [] := by
    refine g_aload_n X dX10_fault_0 rfl 0 rfl ?_
    refine g_get X (AD := A) cm0 (cE_0 cy A aK σ) hin10 rfl 8 (by decide) lk0 (fun _ h9 => h9) rfl dX10_fault_1 ?_
    obtain ⟨r_2, σ_3, hf_1, h⟩ := bnd2_some h
    refine g_callVI (AD := A) (As := []) X (ZC_ok _ _ _ _ _) (m_X5_readText hf_1) (cwV 0 X.1.2.2.2.2 gX10_fault_X5_readText rfl rfl rfl (by decide +kernel) ⟨Nat.le_of_ble_eq_true rfl, Nat.le_of_ble_eq_true rfl⟩) rfl cm12 (cE_12 cy A aK σ) rfl rfl (Nat.le_of_ble_eq_true rfl) ⟨Nat.zero_le _, Nat.zero_le _⟩ dX10_fault_4 ?_
    cases h
    exact g_iret (Wf := cW cy A aK X9) X ⟨rfl, rfl⟩ dX10_fault_7
  exact K0
end MV
