section MV
variable {D : va_G} {cy : Nat → ClassId} {A aK aO aS aV aT : Nat → Nat} {l : Launch} {X9 : va_W}
set_option maxHeartbeats 8000000 in
set_option maxRecDepth 100000 in
theorem m_X10_compare {σ : St} {a1 : Int32} {a2 : Int32} {r : String ⊕ Int32} (hl : l.stackTraces = false) (h : f_X10_compare a1 a2 σ = some r) : xI (ZC aK aO aS aV aT) D (cyT cy) l yX10_compare wsX10_compare ({ frames := 7, cells := 2, slots := 12, locals := 151 } : Room) (cW cy A aK X9) [.ref (A 0), .int a1, .int a2] σ r σ 2 12 := by
  unfold f_X10_compare at h
  refine xI_of (cc := cX10_compare) (maxL := 9) (ret := (some .int)) (by decide) rfl (Nat.le_of_ble_eq_true rfl) (fun p e s m args below meth c B X hx0 => ?_)
  have hin6 : ∀ w ∈ wsX60, w ∈ wsX10_compare := by decide +kernel
  have lk0 : Cond.fieldLink RX10 120 "Cardcabinet$Row" "size" "I" ∈ wsX10_compare := by decide +kernel
  have lk1 : Cond.methodLink RX10 239 Lib.Math.min.name ∈ wsX10_compare := by decide +kernel
  have lk2 : Cond.static Lib.Math.min.name ∈ wsX10_compare := by decide +kernel
  have lk3 : Cond.initialized "java/lang/Math" ∈ wsX10_compare := by decide +kernel
  have lk4 : Cond.code Lib.Math.min.name Lib.Math.min.code 2 (some .int) ∈ wsX10_compare := by decide +kernel
  have K0 : gG p l e ({ frames := 7, cells := 2, slots := 12, locals := 151 } : Room) s m args below meth c D (cyT cy) B 9 (xeI D (cyT cy) (cW cy A aK X9) B below args s r σ 2 12) (cW cy A aK X9 σ) 0 0 0 [(0, .ref (A 0)), (1, .int a1), (2, .int a2)] [] := by
    refine g_aload_n X dX10_compare_0 rfl 0 rfl ?_
    refine g_iload_n X dX10_compare_1 rfl 1 rfl ?_
    rcases bndX_some h with ⟨E_3, hf_1, h⟩ | ⟨r_2, hf_1, h⟩
    · exact g_xVR_thr (AD := A) (As := [.int a1]) X (ZC_ok _ _ _ _ _) hx0 (m_X10_rowAt hl hf_1) (cwV 1 X.1.2.2.2.2 gX10_compare_X10_rowAt rfl rfl rfl (by decide +kernel) ⟨Nat.le_of_ble_eq_true rfl, Nat.le_of_ble_eq_true rfl⟩) rfl cm0 (cE_0 cy A aK σ) rfl rfl (Nat.le_of_ble_eq_true rfl) ⟨by decide, by decide⟩ dX10_compare_2 h rfl (by decide) (by decide)
    refine g_xVR_ret (AD := A) (As := [.int a1]) X (ZC_ok _ _ _ _ _) (m_X10_rowAt hl hf_1) (cwV 1 X.1.2.2.2.2 gX10_compare_X10_rowAt rfl rfl rfl (by decide +kernel) ⟨Nat.le_of_ble_eq_true rfl, Nat.le_of_ble_eq_true rfl⟩) rfl cm0 (cE_0 cy A aK σ) rfl rfl (Nat.le_of_ble_eq_true rfl) ⟨by decide, by decide⟩ dX10_compare_2 (k' := 1) (n' := 6) (by decide) (by decide) ?_
    refine g_astore_n X dX10_compare_5 rfl (by decide) (lv' := [(3, .ref (A r_2)), (0, .ref (A 0)), (1, .int a1), (2, .int a2)]) rfl ?_
    refine g_aload_n X dX10_compare_6 rfl 1 rfl ?_
    refine g_iload_n X dX10_compare_7 rfl 3 rfl ?_
    rcases bndX_some h with ⟨E_6, hf_4, h⟩ | ⟨r_5, hf_4, h⟩
    · exact g_xVR_thr (AD := A) (As := [.int a2]) X (ZC_ok _ _ _ _ _) hx0 (m_X10_rowAt hl hf_4) (cwV 1 X.1.2.2.2.2 gX10_compare_X10_rowAt rfl rfl rfl (by decide +kernel) ⟨Nat.le_of_ble_eq_true rfl, Nat.le_of_ble_eq_true rfl⟩) rfl cm0 (cE_0 cy A aK σ) rfl rfl (Nat.le_of_ble_eq_true rfl) ⟨by decide, by decide⟩ dX10_compare_8 h rfl (by decide) (by decide)
    refine g_xVR_ret (AD := A) (As := [.int a2]) X (ZC_ok _ _ _ _ _) (m_X10_rowAt hl hf_4) (cwV 1 X.1.2.2.2.2 gX10_compare_X10_rowAt rfl rfl rfl (by decide +kernel) ⟨Nat.le_of_ble_eq_true rfl, Nat.le_of_ble_eq_true rfl⟩) rfl cm0 (cE_0 cy A aK σ) rfl rfl (Nat.le_of_ble_eq_true rfl) ⟨by decide, by decide⟩ dX10_compare_8 (k' := 2) (n' := 12) (by decide) (by decide) ?_
    refine g_astore X dX10_compare_11 (by decide) (lv' := [(4, .ref (A r_5)), (3, .ref (A r_2)), (0, .ref (A 0)), (1, .int a1), (2, .int a2)]) rfl ?_
    refine g_aload_n X dX10_compare_13 rfl 1 rfl ?_
    refine g_get X (AD := A) ((f_X10_rowAt_row hf_1)).mem (cE_row cy A aK σ (f_X10_rowAt_row hf_1)) hin6 rfl 1 (by decide) lk0 (fun _ h9 => h9) rfl dX10_compare_14 ?_
    refine g_aload X dX10_compare_17 0 rfl ?_
    refine g_get X (AD := A) ((f_X10_rowAt_row hf_4)).mem (cE_row cy A aK σ (f_X10_rowAt_row hf_4)) hin6 rfl 1 (by decide) lk0 (fun _ h9 => h9) rfl dX10_compare_19 ?_
    refine g_min X lk1 lk2 lk3 lk4 (by decide) (Nat.le_of_ble_eq_true rfl) ⟨by decide, by decide⟩ dX10_compare_22 ?_
    refine g_istore X dX10_compare_25 (by decide) (lv' := [(5, .int (if (gi σ (8 * r_5 + 1)) < (gi σ (8 * r_2 + 1)) then (gi σ (8 * r_5 + 1)) else (gi σ (8 * r_2 + 1)))), (4, .ref (A r_5)), (3, .ref (A r_2)), (0, .ref (A 0)), (1, .int a1), (2, .int a2)]) rfl ?_
    refine g_iconst X dX10_compare_27 (v := (0 : Int32)) (by decide) ?_
    refine g_istore X dX10_compare_28 (by decide) (lv' := [(6, .int (0 : Int32)), (5, .int (if (gi σ (8 * r_5 + 1)) < (gi σ (8 * r_2 + 1)) then (gi σ (8 * r_5 + 1)) else (gi σ (8 * r_2 + 1)))), (4, .ref (A r_5)), (3, .ref (A r_2)), (0, .ref (A 0)), (1, .int a1), (2, .int a2)]) rfl ?_
    have L_18 : ∀ (c_7 : Nat) (hp_8 : isRow c_7) (c_9 : Nat) (hp_10 : isRow c_9) (c_11 : Int32) (σ_13 : St) (hq_20 : σ_13 = σ) (n_14 : Nat) (v_12 : Int32) (o_31 : (String ⊕ Int32) ⊕ (Unit)), f_X10_compare_L30 c_7 c_9 c_11 σ_13 n_14 v_12 = some o_31 → (∀ (u_19 : Unit), o_31 = .inr (u_19) → gG p l e ({ frames := 7, cells := 2, slots := 12, locals := 151 } : Room) s m args below meth c D (cyT cy) B 9 (xeI D (cyT cy) (cW cy A aK X9) B below args s r σ 2 12) (cW cy A aK X9 σ_13) 2 12 82 [(3, .ref (A c_7)), (4, .ref (A c_9))] []) → (∀ r8, o_31 = .inl r8 → r8 = r) → gG p l e ({ frames := 7, cells := 2, slots := 12, locals := 151 } : Room) s m args below meth c D (cyT cy) B 9 (xeI D (cyT cy) (cW cy A aK X9) B below args s r σ 2 12) (cW cy A aK X9 σ_13) 2 12 30 [(0, .ref (A 0)), (3, .ref (A c_7)), (4, .ref (A c_9)), (5, .int c_11), (6, .int v_12)] [] := by
      intro c_7 hp_8 c_9 hp_10 c_11 σ_13 hq_20 n_14
      induction n_14 with
      | zero =>
        intro v_12 o_31 h K_16 K_17
        rw [f_X10_compare_L30] at h
        cases h
      | succ n_14 ih_15 =>
        intro v_12 o_31 h K_16 K_17
        rw [f_X10_compare_L30] at h
        refine g_iload X dX10_compare_30 4 rfl ?_
        refine g_iload X dX10_compare_32 3 rfl ?_
        refine g_icmp_ge X (tgt := 82) dX10_compare_34 (by decide) (fun hc_21 => ?_) (fun hc_21 => ?_)
        · have h := ift hc_21 h
          cases h
          exact g_sub [1, 2] rfl (K_16 _ rfl)
        · have h := iff_ hc_21 h
          refine g_aload_n X dX10_compare_37 rfl 0 rfl ?_
          refine g_aload_n X dX10_compare_38 rfl 1 rfl ?_
          refine g_iload X dX10_compare_39 4 rfl ?_
          obtain ⟨r_23, hf_22, h⟩ := bnd_some h
          refine g_callVI (AD := A) (As := [.ref (A c_7), .int v_12]) X (ZC_ok _ _ _ _ _) (m_X10_firstAt hp_8 hf_22) (cwV 2 X.1.2.2.2.2 gX10_compare_X10_firstAt rfl rfl rfl (by decide +kernel) ⟨Nat.le_of_ble_eq_true rfl, Nat.le_of_ble_eq_true rfl⟩) rfl cm0 (cE_0 cy A aK σ_13) rfl rfl (Nat.le_of_ble_eq_true rfl) ⟨by decide, by decide⟩ dX10_compare_41 ?_
          refine g_istore X dX10_compare_44 (by decide) (lv' := [(7, .int r_23), (0, .ref (A 0)), (3, .ref (A c_7)), (4, .ref (A c_9)), (5, .int c_11), (6, .int v_12)]) rfl ?_
          refine g_aload_n X dX10_compare_46 rfl 1 rfl ?_
          refine g_aload X dX10_compare_47 3 rfl ?_
          refine g_iload X dX10_compare_49 5 rfl ?_
          obtain ⟨r_25, hf_24, h⟩ := bnd_some h
          refine g_callVI (AD := A) (As := [.ref (A c_9), .int v_12]) X (ZC_ok _ _ _ _ _) (m_X10_firstAt hp_10 hf_24) (cwV 2 X.1.2.2.2.2 gX10_compare_X10_firstAt rfl rfl rfl (by decide +kernel) ⟨Nat.le_of_ble_eq_true rfl, Nat.le_of_ble_eq_true rfl⟩) rfl cm0 (cE_0 cy A aK σ_13) rfl rfl (Nat.le_of_ble_eq_true rfl) ⟨by decide, by decide⟩ dX10_compare_51 ?_
          refine g_istore X dX10_compare_54 (by decide) (lv' := [(8, .int r_25), (7, .int r_23), (0, .ref (A 0)), (3, .ref (A c_7)), (4, .ref (A c_9)), (5, .int c_11), (6, .int v_12)]) rfl ?_
          refine g_iload X dX10_compare_56 1 rfl ?_
          refine g_iload X dX10_compare_58 0 rfl ?_
          refine g_icmp_eq X (tgt := 76) dX10_compare_60 (by decide) (fun hc_26 => ?_) (fun hc_26 => ?_)
          · have h := ift hc_26 h
            refine g_iinc X dX10_compare_76 6 rfl (v := v_12 + (1 : Int32)) rfl (by decide) (lv' := [(6, .int (v_12 + (1 : Int32))), (8, .int r_25), (7, .int r_23), (0, .ref (A 0)), (3, .ref (A c_7)), (4, .ref (A c_9)), (5, .int c_11)]) rfl ?_
            refine g_goto X (tgt := 30) dX10_compare_79 (by decide) ?_
            exact g_sub [3, 4, 5, 6, 0] rfl (ih_15 _ _ h K_16 K_17)
          · have h := iff_ hc_26 h
            refine g_iload X dX10_compare_63 1 rfl ?_
            refine g_iload X dX10_compare_65 0 rfl ?_
            obtain ⟨v_28, hj_30, h⟩ := bnd_some h
            have K_29 : gG p l e ({ frames := 7, cells := 2, slots := 12, locals := 151 } : Room) s m args below meth c D (cyT cy) B 9 (xeI D (cyT cy) (cW cy A aK X9) B below args s r σ 2 12) (cW cy A aK X9 σ_13) 2 12 75 [] [.int v_28] := by
              cases h
              cases K_17 _ rfl
              refine g_wid (k' := 2) (n' := 12) (by decide) (by decide) ?_
              exact g_xret (g_iret (Wf := cW cy A aK X9) X ⟨rfl, hq_20⟩ dX10_compare_75)
            have h := hj_30
            clear hj_30
            refine g_icmp_ge X (tgt := 74) dX10_compare_67 (by decide) (fun hc_27 => ?_) (fun hc_27 => ?_)
            · have h := ift hc_27 h
              refine g_iconst X dX10_compare_74 (v := (1 : Int32)) (by decide) ?_
              cases h
              exact g_sub [] rfl K_29
            · have h := iff_ hc_27 h
              refine g_iconst X dX10_compare_70 (v := (-1 : Int32)) (by decide) ?_
              refine g_goto X (tgt := 75) dX10_compare_71 (by decide) ?_
              cases h
              exact g_sub [] rfl K_29
    rcases bndR_some h with ⟨r9, hl_32, he9⟩ | ⟨o9, hl_32, h⟩
    · exact g_sub [4, 3, 2, 1, 0] rfl (L_18 r_2 (f_X10_rowAt_row hf_1) r_5 (f_X10_rowAt_row hf_4) (if (gi σ (8 * r_5 + 1)) < (gi σ (8 * r_2 + 1)) then (gi σ (8 * r_5 + 1)) else (gi σ (8 * r_2 + 1))) σ rfl FU (0 : Int32) (.inl r9) hl_32 (fun u_19 e9 => nomatch e9) (fun r8 e9 => by cases e9; exact he9))
    · obtain ⟨u_19, rfl⟩ : ∃ z, z = o9 := ⟨_, rfl⟩
      refine g_sub [4, 3, 2, 1, 0] rfl (L_18 r_2 (f_X10_rowAt_row hf_1) r_5 (f_X10_rowAt_row hf_4) (if (gi σ (8 * r_5 + 1)) < (gi σ (8 * r_2 + 1)) then (gi σ (8 * r_5 + 1)) else (gi σ (8 * r_2 + 1))) σ rfl FU (0 : Int32) (.inr u_19) hl_32 (fun u_19z e9 => ?_) (fun r8 e9 => nomatch e9))
      cases e9
      refine g_aload_n X dX10_compare_82 rfl 0 rfl ?_
      refine g_get X (AD := A) ((f_X10_rowAt_row hf_1)).mem (cE_row cy A aK σ (f_X10_rowAt_row hf_1)) hin6 rfl 1 (by decide) lk0 (fun _ h9 => h9) rfl dX10_compare_83 ?_
      refine g_aload X dX10_compare_86 1 rfl ?_
      refine g_get X (AD := A) ((f_X10_rowAt_row hf_4)).mem (cE_row cy A aK σ (f_X10_rowAt_row hf_4)) hin6 rfl 1 (by decide) lk0 (fun _ h9 => h9) rfl dX10_compare_88 ?_
      refine g_icmp_ne X (tgt := 96) dX10_compare_91 (by decide) (fun hc_33 => ?_) (fun hc_33 => ?_)
      · have h := iff_ hc_33 h
        refine g_aload_n X dX10_compare_96 rfl 0 rfl ?_
        refine g_get X (AD := A) ((f_X10_rowAt_row hf_1)).mem (cE_row cy A aK σ (f_X10_rowAt_row hf_1)) hin6 rfl 1 (by decide) lk0 (fun _ h9 => h9) rfl dX10_compare_97 ?_
        refine g_aload X dX10_compare_100 1 rfl ?_
        refine g_get X (AD := A) ((f_X10_rowAt_row hf_4)).mem (cE_row cy A aK σ (f_X10_rowAt_row hf_4)) hin6 rfl 1 (by decide) lk0 (fun _ h9 => h9) rfl dX10_compare_102 ?_
        obtain ⟨v_35, hj_37, h⟩ := bnd_some h
        have K_36 : gG p l e ({ frames := 7, cells := 2, slots := 12, locals := 151 } : Room) s m args below meth c D (cyT cy) B 9 (xeI D (cyT cy) (cW cy A aK X9) B below args s r σ 2 12) (cW cy A aK X9 σ) 2 12 113 [] [.int v_35] := by
          cases h
          refine g_wid (k' := 2) (n' := 12) (by decide) (by decide) ?_
          exact g_xret (g_iret (Wf := cW cy A aK X9) X ⟨rfl, rfl⟩ dX10_compare_113)
        have h := hj_37
        clear hj_37
        refine g_icmp_ge X (tgt := 112) dX10_compare_105 (by decide) (fun hc_34 => ?_) (fun hc_34 => ?_)
        · have h := ift hc_34 h
          refine g_iconst X dX10_compare_112 (v := (1 : Int32)) (by decide) ?_
          cases h
          exact g_sub [] rfl K_36
        · have h := iff_ hc_34 h
          refine g_iconst X dX10_compare_108 (v := (-1 : Int32)) (by decide) ?_
          refine g_goto X (tgt := 113) dX10_compare_109 (by decide) ?_
          cases h
          exact g_sub [] rfl K_36
      · have h := ift hc_33 h
        refine g_iconst X dX10_compare_94 (v := (0 : Int32)) (by decide) ?_
        cases h
        refine g_wid (k' := 2) (n' := 12) (by decide) (by decide) ?_
        exact g_xret (g_iret (Wf := cW cy A aK X9) X ⟨rfl, rfl⟩ dX10_compare_95)
  exact K0
set_option maxHeartbeats 8000000 in
set_option maxRecDepth 100000 in
theorem m_X10_middle {σ : St} {a1 : Int32} {r : String ⊕ Int32} {σ' : St} (hl : l.stackTraces = false) (h : f_X10_middle a1 σ = some (r, σ')) : xI (ZC aK aO aS aV aT) D (cyT cy) l yX10_middle wzX10_middle ({ frames := 7, cells := 2, slots := 12, locals := 151 } : Room) (cW cy A aK X9) [.ref (A 0), .int a1] σ r σ' 2 12 := by
  unfold f_X10_middle at h
  refine xI_of (cc := cX10_middle) (maxL := 3) (ret := (some .int)) (by decide) rfl (Nat.le_of_ble_eq_true rfl) (fun p e s m args below meth c B X hx0 => ?_)
  have hin10 : ∀ w ∈ wsX100, w ∈ wzX10_middle := by decide +kernel
  have hin6 : ∀ w ∈ wsX60, w ∈ wzX10_middle := by decide +kernel
  have lk0 : Cond.fieldLink RX10 120 "Cardcabinet$Row" "size" "I" ∈ wzX10_middle := by decide +kernel
  have lk1 : Cond.fieldLink RX10 42 "Cardcabinet" "sorter" "LCardcabinet$Sorter;" ∈ wzX10_middle := by decide +kernel
  have lk2 : Cond.classLink RX10 244 "java/util/NoSuchElementException" ∈ wzX10_middle := by decide +kernel
  have lk3 : Cond.initialized "java/util/NoSuchElementException" ∈ wzX10_middle := by decide +kernel
  have lk4 : ∀ w ∈ zGood13, w ∈ wzX10_middle := by decide +kernel
  have K0 : gG p l e ({ frames := 7, cells := 2, slots := 12, locals := 151 } : Room) s m args below meth c D (cyT cy) B 3 (xeI D (cyT cy) (cW cy A aK X9) B below args s r σ' 2 12) (cW cy A aK X9 σ) 0 0 0 [(0, .ref (A 0)), (1, .int a1)] [] := by
    refine g_aload_n X dX10_middle_0 rfl 0 rfl ?_
    refine g_iload_n X dX10_middle_1 rfl 1 rfl ?_
    rcases bndX_some h with ⟨E_3, hf_1, h⟩ | ⟨r_2, hf_1, h⟩
    · exact g_xVR_thr (AD := A) (As := [.int a1]) X (ZC_ok _ _ _ _ _) hx0 (m_X10_rowAt hl hf_1) (cwV 1 X.1.2.2.2.2 gZX10_middle_X10_rowAt rfl rfl rfl (by decide +kernel) ⟨Nat.le_of_ble_eq_true rfl, Nat.le_of_ble_eq_true rfl⟩) rfl cm0 (cE_0 cy A aK σ) rfl rfl (Nat.le_of_ble_eq_true rfl) ⟨by decide, by decide⟩ dX10_middle_2 (Prod.mk.inj h).1 (Prod.mk.inj h).2 (by decide) (by decide)
    refine g_xVR_ret (AD := A) (As := [.int a1]) X (ZC_ok _ _ _ _ _) (m_X10_rowAt hl hf_1) (cwV 1 X.1.2.2.2.2 gZX10_middle_X10_rowAt rfl rfl rfl (by decide +kernel) ⟨Nat.le_of_ble_eq_true rfl, Nat.le_of_ble_eq_true rfl⟩) rfl cm0 (cE_0 cy A aK σ) rfl rfl (Nat.le_of_ble_eq_true rfl) ⟨by decide, by decide⟩ dX10_middle_2 (k' := 1) (n' := 6) (by decide) (by decide) ?_
    refine g_astore_n X dX10_middle_5 rfl (by decide) (lv' := [(2, .ref (A r_2)), (0, .ref (A 0)), (1, .int a1)]) rfl ?_
    refine g_aload_n X dX10_middle_6 rfl 0 rfl ?_
    refine g_get X (AD := A) ((f_X10_rowAt_row hf_1)).mem (cE_row cy A aK σ (f_X10_rowAt_row hf_1)) hin6 rfl 1 (by decide) lk0 (fun _ h9 => h9) rfl dX10_middle_7 ?_
    refine g_if_ne X (tgt := 23) dX10_middle_10 (by decide) (fun hc_4 => ?_) (fun hc_4 => ?_)
    · have h := iff_ hc_4 h
      refine g_aload_n X dX10_middle_23 rfl 1 rfl ?_
      refine g_aload_n X dX10_middle_24 rfl 0 rfl ?_
      obtain ⟨r_6, σ_7, hf_5, h⟩ := bnd2_some h
      refine g_callVI (AD := A) (As := [.ref (A r_2)]) X (ZC_ok _ _ _ _ _) (m_X10_sortCopy (f_X10_rowAt_row hf_1) hf_5) (cwV 1 X.1.2.2.2.2 gZX10_middle_X10_sortCopy rfl rfl rfl (by decide +kernel) ⟨Nat.le_of_ble_eq_true rfl, Nat.le_of_ble_eq_true rfl⟩) rfl cm0 (cE_0 cy A aK σ) rfl rfl (Nat.le_of_ble_eq_true rfl) ⟨by decide, by decide⟩ dX10_middle_25 ?_
      refine g_pop X dX10_middle_28 rfl ?_
      refine g_aload_n X dX10_middle_29 rfl 1 rfl ?_
      refine g_get X (AD := A) cm0 (cE_0 cy A aK σ_7) hin10 rfl 6 (by decide) lk1 (fun _ h9 => h9) rfl dX10_middle_30 ?_
      refine g_aload_n X dX10_middle_33 rfl 0 rfl ?_
      refine g_get X (AD := A) ((f_X10_rowAt_row hf_1)).mem (cE_row cy A aK σ_7 (f_X10_rowAt_row hf_1)) hin6 rfl 1 (by decide) lk0 (fun _ h9 => h9) rfl dX10_middle_34 ?_
      refine g_iconst X dX10_middle_37 (v := (1 : Int32)) (by decide) ?_
      refine g_isub X dX10_middle_38 ?_
      refine g_iconst X dX10_middle_39 (v := (2 : Int32)) (by decide) ?_
      refine g_idiv X dX10_middle_40 (by decide) ?_
      obtain ⟨r_9, hf_8, h⟩ := bnd_some h
      refine g_callVI (AD := A) (As := [.int (((gi σ_7 (8 * r_2 + 1)) - (1 : Int32)) / (2 : Int32))]) X (ZC_ok _ _ _ _ _) (m_X8_firstAt hf_8) (cwV 1 X.1.2.2.2.2 gZX10_middle_X8_firstAt rfl rfl rfl (by decide +kernel) ⟨Nat.le_of_ble_eq_true rfl, Nat.le_of_ble_eq_true rfl⟩) rfl cm7 (cE_7 cy A aK σ_7) rfl rfl (Nat.le_of_ble_eq_true rfl) ⟨by decide, by decide⟩ dX10_middle_41 ?_
      cases h
      refine g_wid (k' := 2) (n' := 12) (by decide) (by decide) ?_
      exact g_xret (g_iret (Wf := cW cy A aK X9) X ⟨rfl, rfl⟩ dX10_middle_44)
    · have h := ift hc_4 h
      cases h
      exact g_thr_NSEE (AD := A) X hl hx0 (is9 := 246) (tx := "the row is empty") (by decide) lk2 lk3 lk4 dX10_middle_13 dX10_middle_16 dX10_middle_17 dX10_middle_19 dX10_middle_22 (by decide) (Nat.le_of_ble_eq_true rfl) ⟨by decide, by decide⟩ rfl rfl (by decide) (by decide)
  exact K0
set_option maxHeartbeats 8000000 in
set_option maxRecDepth 100000 in
theorem m_X10_mean {σ : St} {a1 : Int32} {r : String ⊕ UInt64} (hl : l.stackTraces = false) (h : f_X10_mean a1 σ = some r) : xDd (ZC aK aO aS aV aT) D (cyT cy) l yX10_mean wsX10_mean ({ frames := 7, cells := 1, slots := 6, locals := 151 } : Room) (cW cy A aK X9) [.ref (A 0), .int a1] σ r σ 1 6 := by
  unfold f_X10_mean at h
  refine xDd_of (cc := cX10_mean) (maxL := 6) (ret := (some .double)) (by decide) rfl (Nat.le_of_ble_eq_true rfl) (fun p e s m args below meth c B X hx0 => ?_)
  have hin6 : ∀ w ∈ wsX60, w ∈ wsX10_mean := by decide +kernel
  have lk0 : Cond.fieldLink RX10 120 "Cardcabinet$Row" "size" "I" ∈ wsX10_mean := by decide +kernel
  have K0 : gG p l e ({ frames := 7, cells := 1, slots := 6, locals := 151 } : Room) s m args below meth c D (cyT cy) B 6 (xeDd D (cyT cy) (cW cy A aK X9) B below args s r σ 1 6) (cW cy A aK X9 σ) 0 0 0 [(0, .ref (A 0)), (1, .int a1)] [] := by
    refine g_aload_n X dX10_mean_0 rfl 0 rfl ?_
    refine g_iload_n X dX10_mean_1 rfl 1 rfl ?_
    rcases bndX_some h with ⟨E_3, hf_1, h⟩ | ⟨r_2, hf_1, h⟩
    · exact g_xVR_thr (AD := A) (As := [.int a1]) X (ZC_ok _ _ _ _ _) hx0 (m_X10_rowAt hl hf_1) (cwV 1 X.1.2.2.2.2 gX10_mean_X10_rowAt rfl rfl rfl (by decide +kernel) ⟨Nat.le_of_ble_eq_true rfl, Nat.le_of_ble_eq_true rfl⟩) rfl cm0 (cE_0 cy A aK σ) rfl rfl (Nat.le_of_ble_eq_true rfl) ⟨by decide, by decide⟩ dX10_mean_2 h rfl (by decide) (by decide)
    refine g_xVR_ret (AD := A) (As := [.int a1]) X (ZC_ok _ _ _ _ _) (m_X10_rowAt hl hf_1) (cwV 1 X.1.2.2.2.2 gX10_mean_X10_rowAt rfl rfl rfl (by decide +kernel) ⟨Nat.le_of_ble_eq_true rfl, Nat.le_of_ble_eq_true rfl⟩) rfl cm0 (cE_0 cy A aK σ) rfl rfl (Nat.le_of_ble_eq_true rfl) ⟨by decide, by decide⟩ dX10_mean_2 (k' := 1) (n' := 6) (by decide) (by decide) ?_
    refine g_astore_n X dX10_mean_5 rfl (by decide) (lv' := [(2, .ref (A r_2)), (0, .ref (A 0)), (1, .int a1)]) rfl ?_
    refine g_aload_n X dX10_mean_6 rfl 0 rfl ?_
    refine g_get X (AD := A) ((f_X10_rowAt_row hf_1)).mem (cE_row cy A aK σ (f_X10_rowAt_row hf_1)) hin6 rfl 1 (by decide) lk0 (fun _ h9 => h9) rfl dX10_mean_7 ?_
    refine g_if_ne X (tgt := 15) dX10_mean_10 (by decide) (fun hc_4 => ?_) (fun hc_4 => ?_)
    · have h := iff_ hc_4 h
      refine g_lconst X dX10_mean_15 (v := (0 : Int64)) (by decide) ?_
      refine g_lstore_n X dX10_mean_16 rfl (by decide) (lv' := [(3, .long (0 : Int64)), (2, .ref (A r_2)), (0, .ref (A 0)), (1, .int a1)]) rfl ?_
      refine g_iconst X dX10_mean_17 (v := (0 : Int32)) (by decide) ?_
      refine g_istore X dX10_mean_18 (by decide) (lv' := [(5, .int (0 : Int32)), (3, .long (0 : Int64)), (2, .ref (A r_2)), (0, .ref (A 0)), (1, .int a1)]) rfl ?_
      have L_14 : ∀ (c_5 : Nat) (hp_6 : isRow c_5) (σ_9 : St) (hq_16 : σ_9 = σ) (n_10 : Nat) (v_7 : Int64) (v_8 : Int32) (o_15 : Int64), f_X10_mean_L20 c_5 σ_9 n_10 v_7 v_8 = some (o_15) → gG p l e ({ frames := 7, cells := 1, slots := 6, locals := 151 } : Room) s m args below meth c D (cyT cy) B 6 (xeDd D (cyT cy) (cW cy A aK X9) B below args s r σ 1 6) (cW cy A aK X9 σ_9) 1 6 46 [(2, .ref (A c_5)), (3, .long o_15)] [] → gG p l e ({ frames := 7, cells := 1, slots := 6, locals := 151 } : Room) s m args below meth c D (cyT cy) B 6 (xeDd D (cyT cy) (cW cy A aK X9) B below args s r σ 1 6) (cW cy A aK X9 σ_9) 1 6 20 [(0, .ref (A 0)), (2, .ref (A c_5)), (3, .long v_7), (5, .int v_8)] [] := by
        intro c_5 hp_6 σ_9 hq_16 n_10
        induction n_10 with
        | zero =>
          intro v_7 v_8 o_15 h K_12
          rw [f_X10_mean_L20] at h
          cases h
        | succ n_10 ih_11 =>
          intro v_7 v_8 o_15 h K_12
          rw [f_X10_mean_L20] at h
          refine g_iload X dX10_mean_20 3 rfl ?_
          refine g_aload_n X dX10_mean_22 rfl 1 rfl ?_
          refine g_get X (AD := A) (hp_6).mem (cE_row cy A aK σ_9 hp_6) hin6 rfl 1 (by decide) lk0 (fun _ h9 => h9) rfl dX10_mean_23 ?_
          refine g_icmp_ge X (tgt := 46) dX10_mean_26 (by decide) (fun hc_17 => ?_) (fun hc_17 => ?_)
          · have h := ift hc_17 h
            cases h
            exact g_sub [1, 2] rfl K_12
          · have h := iff_ hc_17 h
            refine g_lload_n X dX10_mean_29 rfl 2 rfl ?_
            refine g_aload_n X dX10_mean_30 rfl 0 rfl ?_
            refine g_aload_n X dX10_mean_31 rfl 1 rfl ?_
            refine g_iload X dX10_mean_32 3 rfl ?_
            obtain ⟨r_19, hf_18, h⟩ := bnd_some h
            refine g_callVI (AD := A) (As := [.ref (A c_5), .int v_8]) X (ZC_ok _ _ _ _ _) (m_X10_firstAt hp_6 hf_18) (cwV 2 X.1.2.2.2.2 gX10_mean_X10_firstAt rfl rfl rfl (by decide +kernel) ⟨Nat.le_of_ble_eq_true rfl, Nat.le_of_ble_eq_true rfl⟩) rfl cm0 (cE_0 cy A aK σ_9) rfl rfl (Nat.le_of_ble_eq_true rfl) ⟨by decide, by decide⟩ dX10_mean_34 ?_
            refine g_i2l X dX10_mean_37 ?_
            refine g_ladd X dX10_mean_38 ?_
            refine g_lstore_n X dX10_mean_39 rfl (by decide) (lv' := [(3, .long (v_7 + r_19.toInt64)), (0, .ref (A 0)), (2, .ref (A c_5)), (5, .int v_8)]) rfl ?_
            refine g_iinc X dX10_mean_40 3 rfl (v := v_8 + (1 : Int32)) rfl (by decide) (lv' := [(5, .int (v_8 + (1 : Int32))), (3, .long (v_7 + r_19.toInt64)), (0, .ref (A 0)), (2, .ref (A c_5))]) rfl ?_
            refine g_goto X (tgt := 20) dX10_mean_43 (by decide) ?_
            exact g_sub [2, 3, 1, 0] rfl (ih_11 _ _ _ h K_12)
      obtain ⟨o_15, hl_20, h⟩ := bnd_some h
      refine g_sub [3, 2, 1, 0] rfl (L_14 r_2 (f_X10_rowAt_row hf_1) σ rfl FU (0 : Int64) (0 : Int32) o_15 hl_20 ?_)
      refine g_lload_n X dX10_mean_46 rfl 1 rfl ?_
      refine g_l2d X dX10_mean_47 ?_
      refine g_aload_n X dX10_mean_48 rfl 0 rfl ?_
      refine g_get X (AD := A) ((f_X10_rowAt_row hf_1)).mem (cE_row cy A aK σ (f_X10_rowAt_row hf_1)) hin6 rfl 1 (by decide) lk0 (fun _ h9 => h9) rfl dX10_mean_49 ?_
      refine g_i2d X dX10_mean_52 ?_
      obtain ⟨hg_21, h⟩ := grd_some h
      refine g_ddiv X dX10_mean_53 (nn64_of hg_21) ?_
      cases h
      refine g_wid (k' := 1) (n' := 6) (by decide) (by decide) ?_
      exact g_xret (g_dret (Wf := cW cy A aK X9) X ⟨rfl, rfl⟩ dX10_mean_54)
    · have h := ift hc_4 h
      refine g_dconst X dX10_mean_13 ?_
      cases h
      refine g_wid (k' := 1) (n' := 6) (by decide) (by decide) ?_
      exact g_xret (g_dret (Wf := cW cy A aK X9) X ⟨rfl, rfl⟩ dX10_mean_14)
  exact K0
set_option maxHeartbeats 8000000 in
set_option maxRecDepth 100000 in
theorem m_X10_risingShare {σ : St} {a1 : Int32} {r : String ⊕ UInt32} (hl : l.stackTraces = false) (h : f_X10_risingShare a1 σ = some r) : xF (ZC aK aO aS aV aT) D (cyT cy) l yX10_risingShare wsX10_risingShare ({ frames := 7, cells := 1, slots := 6, locals := 151 } : Room) (cW cy A aK X9) [.ref (A 0), .int a1] σ r σ 1 6 := by
  unfold f_X10_risingShare at h
  refine xF_of (cc := cX10_risingShare) (maxL := 3) (ret := (some .float)) (by decide) rfl (Nat.le_of_ble_eq_true rfl) (fun p e s m args below meth c B X hx0 => ?_)
  have hin6 : ∀ w ∈ wsX60, w ∈ wsX10_risingShare := by decide +kernel
  have lk0 : Cond.fieldLink RX10 120 "Cardcabinet$Row" "size" "I" ∈ wsX10_risingShare := by decide +kernel
  have K0 : gG p l e ({ frames := 7, cells := 1, slots := 6, locals := 151 } : Room) s m args below meth c D (cyT cy) B 3 (xeF D (cyT cy) (cW cy A aK X9) B below args s r σ 1 6) (cW cy A aK X9 σ) 0 0 0 [(0, .ref (A 0)), (1, .int a1)] [] := by
    refine g_aload_n X dX10_risingShare_0 rfl 0 rfl ?_
    refine g_iload_n X dX10_risingShare_1 rfl 1 rfl ?_
    rcases bndX_some h with ⟨E_3, hf_1, h⟩ | ⟨r_2, hf_1, h⟩
    · exact g_xVR_thr (AD := A) (As := [.int a1]) X (ZC_ok _ _ _ _ _) hx0 (m_X10_rowAt hl hf_1) (cwV 1 X.1.2.2.2.2 gX10_risingShare_X10_rowAt rfl rfl rfl (by decide +kernel) ⟨Nat.le_of_ble_eq_true rfl, Nat.le_of_ble_eq_true rfl⟩) rfl cm0 (cE_0 cy A aK σ) rfl rfl (Nat.le_of_ble_eq_true rfl) ⟨by decide, by decide⟩ dX10_risingShare_2 h rfl (by decide) (by decide)
    refine g_xVR_ret (AD := A) (As := [.int a1]) X (ZC_ok _ _ _ _ _) (m_X10_rowAt hl hf_1) (cwV 1 X.1.2.2.2.2 gX10_risingShare_X10_rowAt rfl rfl rfl (by decide +kernel) ⟨Nat.le_of_ble_eq_true rfl, Nat.le_of_ble_eq_true rfl⟩) rfl cm0 (cE_0 cy A aK σ) rfl rfl (Nat.le_of_ble_eq_true rfl) ⟨by decide, by decide⟩ dX10_risingShare_2 (k' := 1) (n' := 6) (by decide) (by decide) ?_
    refine g_astore_n X dX10_risingShare_5 rfl (by decide) (lv' := [(2, .ref (A r_2)), (0, .ref (A 0)), (1, .int a1)]) rfl ?_
    refine g_aload_n X dX10_risingShare_6 rfl 0 rfl ?_
    refine g_get X (AD := A) ((f_X10_rowAt_row hf_1)).mem (cE_row cy A aK σ (f_X10_rowAt_row hf_1)) hin6 rfl 1 (by decide) lk0 (fun _ h9 => h9) rfl dX10_risingShare_7 ?_
    refine g_if_ne X (tgt := 15) dX10_risingShare_10 (by decide) (fun hc_4 => ?_) (fun hc_4 => ?_)
    · have h := iff_ hc_4 h
      refine g_aload_n X dX10_risingShare_15 rfl 1 rfl ?_
      refine g_aload_n X dX10_risingShare_16 rfl 0 rfl ?_
      obtain ⟨r_6, hf_5, h⟩ := bnd_some h
      refine g_callVI (AD := A) (As := [.ref (A r_2)]) X (ZC_ok _ _ _ _ _) (m_X10_lengthOfLongestRun (f_X10_rowAt_row hf_1) hf_5) (cwV 1 X.1.2.2.2.2 gX10_risingShare_X10_lengthOfLongestRun rfl rfl rfl (by decide +kernel) ⟨Nat.le_of_ble_eq_true rfl, Nat.le_of_ble_eq_true rfl⟩) rfl cm0 (cE_0 cy A aK σ) rfl rfl (Nat.le_of_ble_eq_true rfl) ⟨by decide, by decide⟩ dX10_risingShare_17 ?_
      refine g_i2f X dX10_risingShare_20 ?_
      refine g_aload_n X dX10_risingShare_21 rfl 0 rfl ?_
      refine g_get X (AD := A) ((f_X10_rowAt_row hf_1)).mem (cE_row cy A aK σ (f_X10_rowAt_row hf_1)) hin6 rfl 1 (by decide) lk0 (fun _ h9 => h9) rfl dX10_risingShare_22 ?_
      refine g_i2f X dX10_risingShare_25 ?_
      obtain ⟨hg_7, h⟩ := grd_some h
      refine g_fdiv X dX10_risingShare_26 (nn32_of hg_7) ?_
      cases h
      refine g_wid (k' := 1) (n' := 6) (by decide) (by decide) ?_
      exact g_xret (g_fret (Wf := cW cy A aK X9) X ⟨rfl, rfl⟩ dX10_risingShare_27)
    · have h := ift hc_4 h
      refine g_fconst X dX10_risingShare_13 ?_
      cases h
      refine g_wid (k' := 1) (n' := 6) (by decide) (by decide) ?_
      exact g_xret (g_fret (Wf := cW cy A aK X9) X ⟨rfl, rfl⟩ dX10_risingShare_14)
  exact K0
set_option maxHeartbeats 8000000 in
set_option maxRecDepth 100000 in
theorem m_X10_theoremHolds {σ : St} {a1 : Nat} {r : Int32} {σ' : St} (h1 : isRow a1) (h : f_X10_theoremHolds a1 σ = some (r, σ')) : mI (ZC aK aO aS aV aT) D (cyT cy) l yX10_theoremHolds wsX10_theoremHolds ({ frames := 5, cells := 0, slots := 0, locals := 143 } : Room) (cW cy A aK X9) [.ref (A 0), .ref (A a1)] σ r σ' := by
  unfold f_X10_theoremHolds at h
  refine mI_of (cc := cX10_theoremHolds) (maxL := 3) (ret := (some .boolean)) (by decide) rfl (Nat.le_of_ble_eq_true rfl) (fun p e s m args below meth c B X => ?_)
  have hin10 : ∀ w ∈ wsX100, w ∈ wsX10_theoremHolds := by decide +kernel
  have hin6 : ∀ w ∈ wsX60, w ∈ wsX10_theoremHolds := by decide +kernel
  have lk0 : Cond.fieldLink RX10 120 "Cardcabinet$Row" "size" "I" ∈ wsX10_theoremHolds := by decide +kernel
  have lk1 : Cond.fieldLink RX10 30 "Cardcabinet" "copy" "LCardcabinet$Row;" ∈ wsX10_theoremHolds := by decide +kernel
  have lk2 : Cond.fieldLink RX10 139 "Cardcabinet$Order" "BY_FIRST" "LCardcabinet$Order;" ∈ wsX10_theoremHolds := by decide +kernel
  have lk3 : Cond.fieldLink RX10 179 "Cardcabinet$Order" "BY_SECOND" "LCardcabinet$Order;" ∈ wsX10_theoremHolds := by decide +kernel
  have lk4 : Cond.fieldLink RX10 34 "Cardcabinet" "otherCopy" "LCardcabinet$Row;" ∈ wsX10_theoremHolds := by decide +kernel
  have lk5 : Cond.fieldLink RX10 182 "Cardcabinet$Order" "BY_BOTH" "LCardcabinet$Order;" ∈ wsX10_theoremHolds := by decide +kernel
  have K0 : gG p l e ({ frames := 5, cells := 0, slots := 0, locals := 143 } : Room) s m args below meth c D (cyT cy) B 3 (eI D (cyT cy) (cW cy A aK X9) B below args s r σ') (cW cy A aK X9 σ) 0 0 0 [(0, .ref (A 0)), (1, .ref (A a1))] [] := by
    refine g_aload_n X dX10_theoremHolds_0 rfl 1 rfl ?_
    refine g_get X (AD := A) (h1).mem (cE_row cy A aK σ h1) hin6 rfl 1 (by decide) lk0 (fun _ h9 => h9) rfl dX10_theoremHolds_1 ?_
    refine g_istore_n X dX10_theoremHolds_4 rfl (by decide) (lv' := [(2, .int (gi σ (8 * a1 + 1))), (0, .ref (A 0)), (1, .ref (A a1))]) rfl ?_
    refine g_aload_n X dX10_theoremHolds_5 rfl 1 rfl ?_
    refine g_get X (AD := A) cm0 (cE_0 cy A aK σ) hin10 rfl 4 (by decide) lk1 (fun _ h9 => h9) rfl dX10_theoremHolds_6 ?_
    refine g_aload_n X dX10_theoremHolds_9 rfl 2 rfl ?_
    obtain ⟨r_2, σ_3, hf_1, h⟩ := bnd2_some h
    refine g_callVI (AD := A) (As := [.ref (A a1)]) X (ZC_ok _ _ _ _ _) (m_X6_become isRow24 h1 hf_1) (cwV 1 X.1.2.2.2.2 gX10_theoremHolds_X6_become rfl rfl rfl (by decide +kernel) ⟨Nat.le_of_ble_eq_true rfl, Nat.le_of_ble_eq_true rfl⟩) rfl (isRow24).mem (cE_row cy A aK σ isRow24) rfl rfl (Nat.le_of_ble_eq_true rfl) ⟨by decide, by decide⟩ dX10_theoremHolds_10 ?_
    refine g_pop X dX10_theoremHolds_13 rfl ?_
    refine g_aload_n X dX10_theoremHolds_14 rfl 1 rfl ?_
    refine g_aload_n X dX10_theoremHolds_15 rfl 1 rfl ?_
    refine g_get X (AD := A) cm0 (cE_0 cy A aK σ_3) hin10 rfl 4 (by decide) lk1 (fun _ h9 => h9) rfl dX10_theoremHolds_16 ?_
    refine g_iconst X dX10_theoremHolds_19 (v := (0 : Int32)) (by decide) ?_
    refine g_iload_n X dX10_theoremHolds_20 rfl 0 rfl ?_
    refine g_sO X (i := 0) (by decide) lk2 dX10_theoremHolds_21 ?_
    obtain ⟨r_5, σ_6, hf_4, h⟩ := bnd2_some h
    refine g_callVI (AD := A) (As := [.ref (A 24), .int (0 : Int32), .int (gi σ (8 * a1 + 1)), .ref (aO 0)]) X (ZC_ok _ _ _ _ _) (m_X10_arrangePart isRow24 (by decide) hf_4) (cwV 4 X.1.2.2.2.2 gX10_theoremHolds_X10_arrangePart rfl rfl rfl (by decide +kernel) ⟨Nat.le_of_ble_eq_true rfl, Nat.le_of_ble_eq_true rfl⟩) rfl cm0 (cE_0 cy A aK σ_3) rfl rfl (Nat.le_of_ble_eq_true rfl) ⟨by decide, by decide⟩ dX10_theoremHolds_24 ?_
    refine g_pop X dX10_theoremHolds_27 rfl ?_
    refine g_aload_n X dX10_theoremHolds_28 rfl 1 rfl ?_
    refine g_aload_n X dX10_theoremHolds_29 rfl 1 rfl ?_
    refine g_get X (AD := A) cm0 (cE_0 cy A aK σ_6) hin10 rfl 4 (by decide) lk1 (fun _ h9 => h9) rfl dX10_theoremHolds_30 ?_
    obtain ⟨r_8, hf_7, h⟩ := bnd_some h
    refine g_callVI (AD := A) (As := [.ref (A 24)]) X (ZC_ok _ _ _ _ _) (m_X10_rises isRow24 hf_7) (cwV 1 X.1.2.2.2.2 gX10_theoremHolds_X10_rises rfl rfl rfl (by decide +kernel) ⟨Nat.le_of_ble_eq_true rfl, Nat.le_of_ble_eq_true rfl⟩) rfl cm0 (cE_0 cy A aK σ_6) rfl rfl (Nat.le_of_ble_eq_true rfl) ⟨by decide, by decide⟩ dX10_theoremHolds_33 ?_
    refine g_if_eq X (tgt := 55) dX10_theoremHolds_36 (by decide) (fun hc_9 => ?_) (fun hc_9 => ?_)
    · have h := ift hc_9 h
      refine g_iconst X dX10_theoremHolds_55 (v := (0 : Int32)) (by decide) ?_
      cases h
      exact g_zret (Wf := cW cy A aK X9) X rfl ⟨rfl, rfl⟩ dX10_theoremHolds_56
    · have h := iff_ hc_9 h
      refine g_aload_n X dX10_theoremHolds_39 rfl 1 rfl ?_
      refine g_aload_n X dX10_theoremHolds_40 rfl 1 rfl ?_
      refine g_get X (AD := A) cm0 (cE_0 cy A aK σ_6) hin10 rfl 4 (by decide) lk1 (fun _ h9 => h9) rfl dX10_theoremHolds_41 ?_
      refine g_iconst X dX10_theoremHolds_44 (v := (0 : Int32)) (by decide) ?_
      refine g_iload_n X dX10_theoremHolds_45 rfl 0 rfl ?_
      refine g_sO X (i := 0) (by decide) lk2 dX10_theoremHolds_46 ?_
      obtain ⟨r_11, σ_12, hf_10, h⟩ := bnd2_some h
      refine g_callVI (AD := A) (As := [.ref (A 24), .int (0 : Int32), .int (gi σ (8 * a1 + 1)), .ref (aO 0)]) X (ZC_ok _ _ _ _ _) (m_X10_arrangePart isRow24 (by decide) hf_10) (cwV 4 X.1.2.2.2.2 gX10_theoremHolds_X10_arrangePart rfl rfl rfl (by decide +kernel) ⟨Nat.le_of_ble_eq_true rfl, Nat.le_of_ble_eq_true rfl⟩) rfl cm0 (cE_0 cy A aK σ_6) rfl rfl (Nat.le_of_ble_eq_true rfl) ⟨by decide, by decide⟩ dX10_theoremHolds_49 ?_
      refine g_if_eq X (tgt := 57) dX10_theoremHolds_52 (by decide) (fun hc_13 => ?_) (fun hc_13 => ?_)
      · have h := ift hc_13 h
        refine g_aload_n X dX10_theoremHolds_57 rfl 1 rfl ?_
        refine g_get X (AD := A) cm0 (cE_0 cy A aK σ_12) hin10 rfl 4 (by decide) lk1 (fun _ h9 => h9) rfl dX10_theoremHolds_58 ?_
        refine g_aload_n X dX10_theoremHolds_61 rfl 2 rfl ?_
        obtain ⟨r_15, σ_16, hf_14, h⟩ := bnd2_some h
        refine g_callVI (AD := A) (As := [.ref (A a1)]) X (ZC_ok _ _ _ _ _) (m_X6_become isRow24 h1 hf_14) (cwV 1 X.1.2.2.2.2 gX10_theoremHolds_X6_become rfl rfl rfl (by decide +kernel) ⟨Nat.le_of_ble_eq_true rfl, Nat.le_of_ble_eq_true rfl⟩) rfl (isRow24).mem (cE_row cy A aK σ_12 isRow24) rfl rfl (Nat.le_of_ble_eq_true rfl) ⟨by decide, by decide⟩ dX10_theoremHolds_62 ?_
        refine g_pop X dX10_theoremHolds_65 rfl ?_
        refine g_aload_n X dX10_theoremHolds_66 rfl 1 rfl ?_
        refine g_aload_n X dX10_theoremHolds_67 rfl 1 rfl ?_
        refine g_get X (AD := A) cm0 (cE_0 cy A aK σ_16) hin10 rfl 4 (by decide) lk1 (fun _ h9 => h9) rfl dX10_theoremHolds_68 ?_
        refine g_iconst X dX10_theoremHolds_71 (v := (0 : Int32)) (by decide) ?_
        refine g_iload_n X dX10_theoremHolds_72 rfl 0 rfl ?_
        refine g_sO X (i := 1) (by decide) lk3 dX10_theoremHolds_73 ?_
        obtain ⟨r_18, σ_19, hf_17, h⟩ := bnd2_some h
        refine g_callVI (AD := A) (As := [.ref (A 24), .int (0 : Int32), .int (gi σ (8 * a1 + 1)), .ref (aO 1)]) X (ZC_ok _ _ _ _ _) (m_X10_arrangePart isRow24 (by decide) hf_17) (cwV 4 X.1.2.2.2.2 gX10_theoremHolds_X10_arrangePart rfl rfl rfl (by decide +kernel) ⟨Nat.le_of_ble_eq_true rfl, Nat.le_of_ble_eq_true rfl⟩) rfl cm0 (cE_0 cy A aK σ_16) rfl rfl (Nat.le_of_ble_eq_true rfl) ⟨by decide, by decide⟩ dX10_theoremHolds_76 ?_
        refine g_pop X dX10_theoremHolds_79 rfl ?_
        refine g_aload_n X dX10_theoremHolds_80 rfl 1 rfl ?_
        refine g_aload_n X dX10_theoremHolds_81 rfl 1 rfl ?_
        refine g_get X (AD := A) cm0 (cE_0 cy A aK σ_19) hin10 rfl 4 (by decide) lk1 (fun _ h9 => h9) rfl dX10_theoremHolds_82 ?_
        refine g_iconst X dX10_theoremHolds_85 (v := (0 : Int32)) (by decide) ?_
        refine g_iload_n X dX10_theoremHolds_86 rfl 0 rfl ?_
        refine g_sO X (i := 0) (by decide) lk2 dX10_theoremHolds_87 ?_
        obtain ⟨r_21, σ_22, hf_20, h⟩ := bnd2_some h
        refine g_callVI (AD := A) (As := [.ref (A 24), .int (0 : Int32), .int (gi σ (8 * a1 + 1)), .ref (aO 0)]) X (ZC_ok _ _ _ _ _) (m_X10_arrangePart isRow24 (by decide) hf_20) (cwV 4 X.1.2.2.2.2 gX10_theoremHolds_X10_arrangePart rfl rfl rfl (by decide +kernel) ⟨Nat.le_of_ble_eq_true rfl, Nat.le_of_ble_eq_true rfl⟩) rfl cm0 (cE_0 cy A aK σ_19) rfl rfl (Nat.le_of_ble_eq_true rfl) ⟨by decide, by decide⟩ dX10_theoremHolds_90 ?_
        refine g_pop X dX10_theoremHolds_93 rfl ?_
        refine g_aload_n X dX10_theoremHolds_94 rfl 1 rfl ?_
        refine g_get X (AD := A) cm0 (cE_0 cy A aK σ_22) hin10 rfl 5 (by decide) lk4 (fun _ h9 => h9) rfl dX10_theoremHolds_95 ?_
        refine g_aload_n X dX10_theoremHolds_98 rfl 2 rfl ?_
        obtain ⟨r_24, σ_25, hf_23, h⟩ := bnd2_some h
        refine g_callVI (AD := A) (As := [.ref (A a1)]) X (ZC_ok _ _ _ _ _) (m_X6_become isRow25 h1 hf_23) (cwV 1 X.1.2.2.2.2 gX10_theoremHolds_X6_become rfl rfl rfl (by decide +kernel) ⟨Nat.le_of_ble_eq_true rfl, Nat.le_of_ble_eq_true rfl⟩) rfl (isRow25).mem (cE_row cy A aK σ_22 isRow25) rfl rfl (Nat.le_of_ble_eq_true rfl) ⟨by decide, by decide⟩ dX10_theoremHolds_99 ?_
        refine g_pop X dX10_theoremHolds_102 rfl ?_
        refine g_aload_n X dX10_theoremHolds_103 rfl 1 rfl ?_
        refine g_aload_n X dX10_theoremHolds_104 rfl 1 rfl ?_
        refine g_get X (AD := A) cm0 (cE_0 cy A aK σ_25) hin10 rfl 5 (by decide) lk4 (fun _ h9 => h9) rfl dX10_theoremHolds_105 ?_
        refine g_iconst X dX10_theoremHolds_108 (v := (0 : Int32)) (by decide) ?_
        refine g_iload_n X dX10_theoremHolds_109 rfl 0 rfl ?_
        refine g_sO X (i := 2) (by decide) lk5 dX10_theoremHolds_110 ?_
        obtain ⟨r_27, σ_28, hf_26, h⟩ := bnd2_some h
        refine g_callVI (AD := A) (As := [.ref (A 25), .int (0 : Int32), .int (gi σ (8 * a1 + 1)), .ref (aO 2)]) X (ZC_ok _ _ _ _ _) (m_X10_arrangePart isRow25 (by decide) hf_26) (cwV 4 X.1.2.2.2.2 gX10_theoremHolds_X10_arrangePart rfl rfl rfl (by decide +kernel) ⟨Nat.le_of_ble_eq_true rfl, Nat.le_of_ble_eq_true rfl⟩) rfl cm0 (cE_0 cy A aK σ_25) rfl rfl (Nat.le_of_ble_eq_true rfl) ⟨by decide, by decide⟩ dX10_theoremHolds_113 ?_
        refine g_pop X dX10_theoremHolds_116 rfl ?_
        refine g_aload_n X dX10_theoremHolds_117 rfl 1 rfl ?_
        refine g_get X (AD := A) cm0 (cE_0 cy A aK σ_28) hin10 rfl 4 (by decide) lk1 (fun _ h9 => h9) rfl dX10_theoremHolds_118 ?_
        refine g_aload_n X dX10_theoremHolds_121 rfl 1 rfl ?_
        refine g_get X (AD := A) cm0 (cE_0 cy A aK σ_28) hin10 rfl 5 (by decide) lk4 (fun _ h9 => h9) rfl dX10_theoremHolds_122 ?_
        obtain ⟨r_30, σ_31, hf_29, h⟩ := bnd2_some h
        refine g_callVI (AD := A) (As := [.ref (A 25)]) X (ZC_ok _ _ _ _ _) (m_X6_become isRow24 isRow25 hf_29) (cwV 1 X.1.2.2.2.2 gX10_theoremHolds_X6_become rfl rfl rfl (by decide +kernel) ⟨Nat.le_of_ble_eq_true rfl, Nat.le_of_ble_eq_true rfl⟩) rfl (isRow24).mem (cE_row cy A aK σ_28 isRow24) rfl rfl (Nat.le_of_ble_eq_true rfl) ⟨by decide, by decide⟩ dX10_theoremHolds_125 ?_
        obtain ⟨v_33, hj_36, h⟩ := bnd_some h
        have K_34 : gG p l e ({ frames := 5, cells := 0, slots := 0, locals := 143 } : Room) s m args below meth c D (cyT cy) B 3 (eI D (cyT cy) (cW cy A aK X9) B below args s r σ') (cW cy A aK X9 σ_31) 0 0 136 [] [.int v_33] := by
          obtain ⟨hg_35, h⟩ := grd_some h
          cases h
          exact g_zret (Wf := cW cy A aK X9) X (nar01 hg_35) ⟨rfl, rfl⟩ dX10_theoremHolds_136
        have h := hj_36
        clear hj_36
        refine g_if_ne X (tgt := 135) dX10_theoremHolds_128 (by decide) (fun hc_32 => ?_) (fun hc_32 => ?_)
        · have h := iff_ hc_32 h
          refine g_iconst X dX10_theoremHolds_135 (v := (0 : Int32)) (by decide) ?_
          cases h
          exact g_sub [] rfl K_34
        · have h := ift hc_32 h
          refine g_iconst X dX10_theoremHolds_131 (v := (1 : Int32)) (by decide) ?_
          refine g_goto X (tgt := 136) dX10_theoremHolds_132 (by decide) ?_
          cases h
          exact g_sub [] rfl K_34
      · have h := iff_ hc_13 h
        refine g_iconst X dX10_theoremHolds_55 (v := (0 : Int32)) (by decide) ?_
        cases h
        exact g_zret (Wf := cW cy A aK X9) X rfl ⟨rfl, rfl⟩ dX10_theoremHolds_56
  exact K0
set_option maxHeartbeats 8000000 in
set_option maxRecDepth 100000 in
theorem m_X10_errors {σ : St} {r : Int32} {σ' : St} (h : f_X10_errors σ = some (r, σ')) : mI (ZC aK aO aS aV aT) D (cyT cy) l yX10_errors wsX10_errors ({ frames := 6, cells := 0, slots := 0, locals := 165 } : Room) (cW cy A aK X9) [.ref (A 0)] σ r σ' := by
  unfold f_X10_errors at h
  refine mI_of (cc := cX10_errors) (maxL := 3) (ret := (some .int)) (by decide) rfl (Nat.le_of_ble_eq_true rfl) (fun p e s m args below meth c B X => ?_)
  have hin10 : ∀ w ∈ wsX100, w ∈ wsX10_errors := by decide +kernel
  have lk0 : Cond.fieldLink RX10 18 "Cardcabinet" "rows" "[LCardcabinet$Row;" ∈ wsX10_errors := by decide +kernel
  have K0 : gG p l e ({ frames := 6, cells := 0, slots := 0, locals := 165 } : Room) s m args below meth c D (cyT cy) B 3 (eI D (cyT cy) (cW cy A aK X9) B below args s r σ') (cW cy A aK X9 σ) 0 0 0 [(0, .ref (A 0))] [] := by
    refine g_iconst X dX10_errors_0 (v := (0 : Int32)) (by decide) ?_
    refine g_istore_n X dX10_errors_1 rfl (by decide) (lv' := [(1, .int (0 : Int32)), (0, .ref (A 0))]) rfl ?_
    refine g_iconst X dX10_errors_2 (v := (0 : Int32)) (by decide) ?_
    refine g_istore_n X dX10_errors_3 rfl (by decide) (lv' := [(2, .int (0 : Int32)), (1, .int (0 : Int32)), (0, .ref (A 0))]) rfl ?_
    have L_8 : ∀ (n_4 : Nat) (v_1 : Int32) (v_2 : Int32) (σ_3 : St) (o_10 : Int32) (σ_9 : St), f_X10_errors_L4 n_4 v_1 v_2 σ_3 = some (o_10, σ_9) → gG p l e ({ frames := 6, cells := 0, slots := 0, locals := 165 } : Room) s m args below meth c D (cyT cy) B 3 (eI D (cyT cy) (cW cy A aK X9) B below args s r σ') (cW cy A aK X9 σ_9) 0 0 31 [(1, .int o_10)] [] → gG p l e ({ frames := 6, cells := 0, slots := 0, locals := 165 } : Room) s m args below meth c D (cyT cy) B 3 (eI D (cyT cy) (cW cy A aK X9) B below args s r σ') (cW cy A aK X9 σ_3) 0 0 4 [(0, .ref (A 0)), (1, .int v_1), (2, .int v_2)] [] := by
      intro n_4
      induction n_4 with
      | zero =>
        intro v_1 v_2 σ_3 o_10 σ_9 h K_6
        rw [f_X10_errors_L4] at h
        cases h
      | succ n_4 ih_5 =>
        intro v_1 v_2 σ_3 o_10 σ_9 h K_6
        rw [f_X10_errors_L4] at h
        refine g_iload_n X dX10_errors_4 rfl 2 rfl ?_
        refine g_iconst X dX10_errors_5 (v := (4 : Int32)) (by decide) ?_
        refine g_icmp_ge X (tgt := 31) dX10_errors_6 (by decide) (fun hc_11 => ?_) (fun hc_11 => ?_)
        · have h := ift hc_11 h
          cases h
          exact g_sub [1] rfl K_6
        · have h := iff_ hc_11 h
          refine g_aload_n X dX10_errors_9 rfl 0 rfl ?_
          refine g_aload_n X dX10_errors_10 rfl 0 rfl ?_
          refine g_get X (AD := A) cm0 (cE_0 cy A aK σ_3) hin10 rfl 1 (by decide) lk0 (fun _ h9 => h9) rfl dX10_errors_11 ?_
          refine g_iload_n X dX10_errors_14 rfl 2 rfl ?_
          obtain ⟨hg_12, h⟩ := grd_some h
          refine g_aald X (AD := A) cm4 (cE_4 cy A aK σ_3) 3 rfl hg_12 (v := .ref (A (16 + v_2.toNatClampNeg))) rfl dX10_errors_15 ?_
          obtain ⟨r_14, σ_15, hf_13, h⟩ := bnd2_some h
          refine g_callVI (AD := A) (As := [.ref (A (16 + v_2.toNatClampNeg))]) X (ZC_ok _ _ _ _ _) (m_X10_theoremHolds (isRow_r hg_12) hf_13) (cwV 1 X.1.2.2.2.2 gX10_errors_X10_theoremHolds rfl rfl rfl (by decide +kernel) ⟨Nat.le_of_ble_eq_true rfl, Nat.le_of_ble_eq_true rfl⟩) rfl cm0 (cE_0 cy A aK σ_3) rfl rfl (Nat.le_of_ble_eq_true rfl) ⟨by decide, by decide⟩ dX10_errors_16 ?_
          obtain ⟨v_17, hj_19, h⟩ := bnd_some h
          have K_18 : gG p l e ({ frames := 6, cells := 0, slots := 0, locals := 165 } : Room) s m args below meth c D (cyT cy) B 3 (eI D (cyT cy) (cW cy A aK X9) B below args s r σ') (cW cy A aK X9 σ_15) 0 0 25 [(0, .ref (A 0)), (1, .int v_17), (2, .int v_2)] [] := by
            refine g_iinc X dX10_errors_25 2 rfl (v := v_2 + (1 : Int32)) rfl (by decide) (lv' := [(2, .int (v_2 + (1 : Int32))), (0, .ref (A 0)), (1, .int v_17)]) rfl ?_
            refine g_goto X (tgt := 4) dX10_errors_28 (by decide) ?_
            exact g_sub [1, 2, 0] rfl (ih_5 _ _ _ _ _ h K_6)
          have h := hj_19
          clear hj_19
          refine g_if_ne X (tgt := 25) dX10_errors_19 (by decide) (fun hc_16 => ?_) (fun hc_16 => ?_)
          · have h := iff_ hc_16 h
            cases h
            exact g_sub [0, 1, 2] rfl K_18
          · have h := ift hc_16 h
            refine g_iinc X dX10_errors_22 1 rfl (v := v_1 + (1 : Int32)) rfl (by decide) (lv' := [(1, .int (v_1 + (1 : Int32))), (0, .ref (A 0)), (2, .int v_2)]) rfl ?_
            cases h
            exact g_sub [1, 0, 2] rfl K_18
    obtain ⟨o_10, σ_9, hl_20, h⟩ := bnd2_some h
    refine g_sub [2, 1, 0] rfl (L_8 FU (0 : Int32) (0 : Int32) σ o_10 σ_9 hl_20 ?_)
    refine g_iload_n X dX10_errors_31 rfl 0 rfl ?_
    cases h
    exact g_iret (Wf := cW cy A aK X9) X ⟨rfl, rfl⟩ dX10_errors_32
  exact K0
end MV
