section MV
variable {D : va_G} {cy : Nat → ClassId} {A aK aO aS aV aT : Nat → Nat} {l : Launch} {X9 : va_W}
set_option maxHeartbeats 8000000 in
set_option maxRecDepth 100000 in
theorem m_X1_make {σ : St} {a1 : Int32} {a2 : Int32} {r : Int32} {σ' : St} (h : f_X1_make a1 a2 σ = some (r, σ')) : mI (ZC aK aO aS aV aT) D (cyT cy) l yX1_make wsX1_make ({ frames := 0, cells := 0, slots := 0, locals := 0 } : Room) (cW cy A aK X9) [.ref (A 1), .int a1, .int a2] σ r σ' := by
  unfold f_X1_make at h
  refine mI_of (cc := cX1_make) (maxL := 3) (ret := (some .int)) (by decide) rfl (Nat.le_of_ble_eq_true rfl) (fun p e s m args below meth c B X => ?_)
  have hin1 : ∀ w ∈ wsX10, w ∈ wsX1_make := by decide +kernel
  have lk0 : Cond.fieldLink RX1 18 "Cardcabinet$Deck" "made" "I" ∈ wsX1_make := by decide +kernel
  have lk1 : Cond.fieldLink RX1 9 "Cardcabinet$Deck" "firsts" "[I" ∈ wsX1_make := by decide +kernel
  have lk2 : Cond.fieldLink RX1 15 "Cardcabinet$Deck" "seconds" "[I" ∈ wsX1_make := by decide +kernel
  have K0 : gG p l e ({ frames := 0, cells := 0, slots := 0, locals := 0 } : Room) s m args below meth c D (cyT cy) B 3 (eI D (cyT cy) (cW cy A aK X9) B below args s r σ') (cW cy A aK X9 σ) 0 0 0 [(0, .ref (A 1)), (1, .int a1), (2, .int a2)] [] := by
    refine g_aload_n X dX1_make_0 rfl 0 rfl ?_
    refine g_get X (AD := A) cm1 (cE_1 cy A aK σ) hin1 rfl 2 (by decide) lk0 (fun _ h9 => h9) rfl dX1_make_1 ?_
    refine g_sipush X dX1_make_4 (v := (20000 : Int32)) (by decide) ?_
    refine g_icmp_lt X (tgt := 12) dX1_make_7 (by decide) (fun hc_1 => ?_) (fun hc_1 => ?_)
    · have h := ift hc_1 h
      refine g_aload_n X dX1_make_12 rfl 0 rfl ?_
      refine g_get X (AD := A) cm1 (cE_1 cy A aK σ) hin1 rfl 0 (by decide) lk1 (fun _ h9 => h9) rfl dX1_make_13 ?_
      refine g_aload_n X dX1_make_16 rfl 0 rfl ?_
      refine g_get X (AD := A) cm1 (cE_1 cy A aK σ) hin1 rfl 2 (by decide) lk0 (fun _ h9 => h9) rfl dX1_make_17 ?_
      refine g_iload_n X dX1_make_20 rfl 1 rfl ?_
      obtain ⟨hg_2, h⟩ := grd_some h
      refine g_iast X (AD := A) (σ' := sr σ 2 (upd (gr σ 2) (gi σ 10).toNatClampNeg a1)) cm2 (cE_2 cy A aK σ) 0 rfl hg_2 (st_c2 cy A aK σ (upd (gr σ 2) (gi σ 10).toNatClampNeg a1)) dX1_make_21 ?_
      obtain ⟨σ_3, e_4, h⟩ := bnd_some h
      have e_4 := Option.some.inj e_4
      rw [e_4]
      refine g_aload_n X dX1_make_22 rfl 0 rfl ?_
      refine g_get X (AD := A) cm1 (cE_1 cy A aK σ_3) hin1 rfl 1 (by decide) lk2 (fun _ h9 => h9) rfl dX1_make_23 ?_
      refine g_aload_n X dX1_make_26 rfl 0 rfl ?_
      refine g_get X (AD := A) cm1 (cE_1 cy A aK σ_3) hin1 rfl 2 (by decide) lk0 (fun _ h9 => h9) rfl dX1_make_27 ?_
      refine g_iload_n X dX1_make_30 rfl 2 rfl ?_
      obtain ⟨hg_5, h⟩ := grd_some h
      refine g_iast X (AD := A) (σ' := sr σ_3 3 (upd (gr σ_3 3) (gi σ_3 10).toNatClampNeg a2)) cm3 (cE_3 cy A aK σ_3) 0 rfl hg_5 (st_c3 cy A aK σ_3 (upd (gr σ_3 3) (gi σ_3 10).toNatClampNeg a2)) dX1_make_31 ?_
      obtain ⟨σ_6, e_7, h⟩ := bnd_some h
      have e_7 := Option.some.inj e_7
      rw [e_7]
      refine g_aload_n X dX1_make_32 rfl 0 rfl ?_
      refine g_dup X dX1_make_33 rfl ?_
      refine g_get X (AD := A) cm1 (cE_1 cy A aK σ_6) hin1 rfl 2 (by decide) lk0 (fun _ h9 => h9) rfl dX1_make_34 ?_
      refine g_iconst X dX1_make_37 (v := (1 : Int32)) (by decide) ?_
      refine g_iadd X dX1_make_38 ?_
      refine g_put X (AD := A) (ty := .int) (v := .int ((gi σ_6 10) + (1 : Int32))) (σ' := si σ_6 10 ((gi σ_6 10) + (1 : Int32))) cm1 (cE_1 cy A aK σ_6) hin1 rfl tyX1 tyX1_ok nmX1 2 (by decide) lk0 (fun _ h9 => h9) rfl (by decide +kernel) rfl rfl (Nat.le_of_ble_eq_true rfl) (sf_c10 cy A aK σ_6 ((gi σ_6 10) + (1 : Int32))) dX1_make_39 ?_
      refine g_aload_n X dX1_make_42 rfl 0 rfl ?_
      refine g_get X (AD := A) cm1 (cE_1 cy A aK (si σ_6 10 ((gi σ_6 10) + (1 : Int32)))) hin1 rfl 2 (by decide) lk0 (fun _ h9 => h9) rfl dX1_make_43 ?_
      refine g_iconst X dX1_make_46 (v := (1 : Int32)) (by decide) ?_
      refine g_isub X dX1_make_47 ?_
      cases h
      exact g_iret (Wf := cW cy A aK X9) X ⟨rfl, rfl⟩ dX1_make_48
    · have h := iff_ hc_1 h
      refine g_iconst X dX1_make_10 (v := (-1 : Int32)) (by decide) ?_
      cases h
      exact g_iret (Wf := cW cy A aK X9) X ⟨rfl, rfl⟩ dX1_make_11
  exact K0
set_option maxHeartbeats 8000000 in
set_option maxRecDepth 100000 in
theorem m_X1_firstOf {σ : St} {a1 : Int32} {r : Int32} (h : f_X1_firstOf a1 σ = some r) : mI (ZC aK aO aS aV aT) D (cyT cy) l yX1_firstOf wsX1_firstOf ({ frames := 0, cells := 0, slots := 0, locals := 0 } : Room) (cW cy A aK X9) [.ref (A 1), .int a1] σ r σ := by
  unfold f_X1_firstOf at h
  refine mI_of (cc := cX1_firstOf) (maxL := 2) (ret := (some .int)) (by decide) rfl (Nat.le_of_ble_eq_true rfl) (fun p e s m args below meth c B X => ?_)
  have hin1 : ∀ w ∈ wsX10, w ∈ wsX1_firstOf := by decide +kernel
  have lk0 : Cond.fieldLink RX1 18 "Cardcabinet$Deck" "made" "I" ∈ wsX1_firstOf := by decide +kernel
  have lk1 : Cond.fieldLink RX1 9 "Cardcabinet$Deck" "firsts" "[I" ∈ wsX1_firstOf := by decide +kernel
  have K0 : gG p l e ({ frames := 0, cells := 0, slots := 0, locals := 0 } : Room) s m args below meth c D (cyT cy) B 2 (eI D (cyT cy) (cW cy A aK X9) B below args s r σ) (cW cy A aK X9 σ) 0 0 0 [(0, .ref (A 1)), (1, .int a1)] [] := by
    refine g_iload_n X dX1_firstOf_0 rfl 1 rfl ?_
    obtain ⟨v_2, hj_6, h⟩ := bnd_some h
    have K_3 : gG p l e ({ frames := 0, cells := 0, slots := 0, locals := 0 } : Room) s m args below meth c D (cyT cy) B 2 (eI D (cyT cy) (cW cy A aK X9) B below args s r σ) (cW cy A aK X9 σ) 0 0 22 [] [.int v_2] := by
      cases h
      exact g_iret (Wf := cW cy A aK X9) X ⟨rfl, rfl⟩ dX1_firstOf_22
    have h := hj_6
    clear hj_6
    refine g_if_lt X (tgt := 21) dX1_firstOf_1 (by decide) (fun hc_1 => ?_) (fun hc_1 => ?_)
    · have h := ift hc_1 h
      refine g_iconst X dX1_firstOf_21 (v := (0 : Int32)) (by decide) ?_
      cases h
      exact g_sub [] rfl K_3
    · have h := iff_ hc_1 h
      refine g_iload_n X dX1_firstOf_4 rfl 1 rfl ?_
      refine g_aload_n X dX1_firstOf_5 rfl 0 rfl ?_
      refine g_get X (AD := A) cm1 (cE_1 cy A aK σ) hin1 rfl 2 (by decide) lk0 (fun _ h9 => h9) rfl dX1_firstOf_6 ?_
      refine g_icmp_ge X (tgt := 21) dX1_firstOf_9 (by decide) (fun hc_4 => ?_) (fun hc_4 => ?_)
      · have h := ift hc_4 h
        refine g_iconst X dX1_firstOf_21 (v := (0 : Int32)) (by decide) ?_
        cases h
        exact g_sub [] rfl K_3
      · have h := iff_ hc_4 h
        refine g_aload_n X dX1_firstOf_12 rfl 0 rfl ?_
        refine g_get X (AD := A) cm1 (cE_1 cy A aK σ) hin1 rfl 0 (by decide) lk1 (fun _ h9 => h9) rfl dX1_firstOf_13 ?_
        refine g_iload_n X dX1_firstOf_16 rfl 1 rfl ?_
        obtain ⟨hg_5, h⟩ := grd_some h
        refine g_iald X (AD := A) cm2 (cE_2 cy A aK σ) 0 rfl hg_5 dX1_firstOf_17 ?_
        refine g_goto X (tgt := 22) dX1_firstOf_18 (by decide) ?_
        cases h
        exact g_sub [] rfl K_3
  exact K0
set_option maxHeartbeats 8000000 in
set_option maxRecDepth 100000 in
theorem m_X1_secondOf {σ : St} {a1 : Int32} {r : Int32} (h : f_X1_secondOf a1 σ = some r) : mI (ZC aK aO aS aV aT) D (cyT cy) l yX1_secondOf wsX1_secondOf ({ frames := 0, cells := 0, slots := 0, locals := 0 } : Room) (cW cy A aK X9) [.ref (A 1), .int a1] σ r σ := by
  unfold f_X1_secondOf at h
  refine mI_of (cc := cX1_secondOf) (maxL := 2) (ret := (some .int)) (by decide) rfl (Nat.le_of_ble_eq_true rfl) (fun p e s m args below meth c B X => ?_)
  have hin1 : ∀ w ∈ wsX10, w ∈ wsX1_secondOf := by decide +kernel
  have lk0 : Cond.fieldLink RX1 18 "Cardcabinet$Deck" "made" "I" ∈ wsX1_secondOf := by decide +kernel
  have lk1 : Cond.fieldLink RX1 15 "Cardcabinet$Deck" "seconds" "[I" ∈ wsX1_secondOf := by decide +kernel
  have K0 : gG p l e ({ frames := 0, cells := 0, slots := 0, locals := 0 } : Room) s m args below meth c D (cyT cy) B 2 (eI D (cyT cy) (cW cy A aK X9) B below args s r σ) (cW cy A aK X9 σ) 0 0 0 [(0, .ref (A 1)), (1, .int a1)] [] := by
    refine g_iload_n X dX1_secondOf_0 rfl 1 rfl ?_
    obtain ⟨v_2, hj_6, h⟩ := bnd_some h
    have K_3 : gG p l e ({ frames := 0, cells := 0, slots := 0, locals := 0 } : Room) s m args below meth c D (cyT cy) B 2 (eI D (cyT cy) (cW cy A aK X9) B below args s r σ) (cW cy A aK X9 σ) 0 0 22 [] [.int v_2] := by
      cases h
      exact g_iret (Wf := cW cy A aK X9) X ⟨rfl, rfl⟩ dX1_secondOf_22
    have h := hj_6
    clear hj_6
    refine g_if_lt X (tgt := 21) dX1_secondOf_1 (by decide) (fun hc_1 => ?_) (fun hc_1 => ?_)
    · have h := ift hc_1 h
      refine g_iconst X dX1_secondOf_21 (v := (0 : Int32)) (by decide) ?_
      cases h
      exact g_sub [] rfl K_3
    · have h := iff_ hc_1 h
      refine g_iload_n X dX1_secondOf_4 rfl 1 rfl ?_
      refine g_aload_n X dX1_secondOf_5 rfl 0 rfl ?_
      refine g_get X (AD := A) cm1 (cE_1 cy A aK σ) hin1 rfl 2 (by decide) lk0 (fun _ h9 => h9) rfl dX1_secondOf_6 ?_
      refine g_icmp_ge X (tgt := 21) dX1_secondOf_9 (by decide) (fun hc_4 => ?_) (fun hc_4 => ?_)
      · have h := ift hc_4 h
        refine g_iconst X dX1_secondOf_21 (v := (0 : Int32)) (by decide) ?_
        cases h
        exact g_sub [] rfl K_3
      · have h := iff_ hc_4 h
        refine g_aload_n X dX1_secondOf_12 rfl 0 rfl ?_
        refine g_get X (AD := A) cm1 (cE_1 cy A aK σ) hin1 rfl 1 (by decide) lk1 (fun _ h9 => h9) rfl dX1_secondOf_13 ?_
        refine g_iload_n X dX1_secondOf_16 rfl 1 rfl ?_
        obtain ⟨hg_5, h⟩ := grd_some h
        refine g_iald X (AD := A) cm3 (cE_3 cy A aK σ) 0 rfl hg_5 dX1_secondOf_17 ?_
        refine g_goto X (tgt := 22) dX1_secondOf_18 (by decide) ?_
        cases h
        exact g_sub [] rfl K_3
  exact K0
set_option maxHeartbeats 8000000 in
set_option maxRecDepth 100000 in
theorem m_X10_rest {σ : St} {a1 : Int32} {a2 : Int32} {r : Int32} (h : f_X10_rest a1 a2 = some r) : mI (ZC aK aO aS aV aT) D (cyT cy) l yX10_rest wsX10_rest ({ frames := 0, cells := 0, slots := 0, locals := 0 } : Room) (cW cy A aK X9) [.int a1, .int a2] σ r σ := by
  unfold f_X10_rest at h
  refine mI_of (cc := cX10_rest) (maxL := 2) (ret := (some .int)) (by decide) rfl (Nat.le_of_ble_eq_true rfl) (fun p e s m args below meth c B X => ?_)
  have K0 : gG p l e ({ frames := 0, cells := 0, slots := 0, locals := 0 } : Room) s m args below meth c D (cyT cy) B 2 (eI D (cyT cy) (cW cy A aK X9) B below args s r σ) (cW cy A aK X9 σ) 0 0 0 [(0, .int a1), (1, .int a2)] [] := by
    refine g_iload_n X dX10_rest_0 rfl 1 rfl ?_
    obtain ⟨v_2, hj_5, h⟩ := bnd_some h
    have K_3 : gG p l e ({ frames := 0, cells := 0, slots := 0, locals := 0 } : Room) s m args below meth c D (cyT cy) B 2 (eI D (cyT cy) (cW cy A aK X9) B below args s r σ) (cW cy A aK X9 σ) 0 0 11 [] [.int v_2] := by
      cases h
      exact g_iret (Wf := cW cy A aK X9) X ⟨rfl, rfl⟩ dX10_rest_11
    have h := hj_5
    clear hj_5
    refine g_if_le X (tgt := 10) dX10_rest_1 (by decide) (fun hc_1 => ?_) (fun hc_1 => ?_)
    · have h := ift hc_1 h
      refine g_iconst X dX10_rest_10 (v := (0 : Int32)) (by decide) ?_
      cases h
      exact g_sub [] rfl K_3
    · have h := iff_ hc_1 h
      refine g_iload_n X dX10_rest_4 rfl 0 rfl ?_
      refine g_iload_n X dX10_rest_5 rfl 1 rfl ?_
      obtain ⟨hg_4, h⟩ := grd_some h
      refine g_irem X dX10_rest_6 hg_4 ?_
      refine g_goto X (tgt := 11) dX10_rest_7 (by decide) ?_
      cases h
      exact g_sub [] rfl K_3
  exact K0
set_option maxHeartbeats 8000000 in
set_option maxRecDepth 100000 in
theorem m_X2_draw {σ : St} {a1 : Int32} {r : Int32} {σ' : St} (h : f_X2_draw a1 σ = some (r, σ')) : mI (ZC aK aO aS aV aT) D (cyT cy) l yX2_draw wsX2_draw ({ frames := 1, cells := 0, slots := 0, locals := 21 } : Room) (cW cy A aK X9) [.ref (A 14), .int a1] σ r σ' := by
  unfold f_X2_draw at h
  refine mI_of (cc := cX2_draw) (maxL := 2) (ret := (some .int)) (by decide) rfl (Nat.le_of_ble_eq_true rfl) (fun p e s m args below meth c B X => ?_)
  have hin2 : ∀ w ∈ wsX20, w ∈ wsX2_draw := by decide +kernel
  have lk0 : Cond.fieldLink RX2 7 "Cardcabinet$Draws" "seed" "I" ∈ wsX2_draw := by decide +kernel
  have lk1 : Cond.constant RX2 13 (1103515245) ∈ wsX2_draw := by decide +kernel
  have lk2 : Cond.initialized RX10 ∈ wsX2_draw := by decide +kernel
  have lk3 : Cond.static yX10_rest ∈ wsX2_draw := by decide +kernel
  have K0 : gG p l e ({ frames := 1, cells := 0, slots := 0, locals := 21 } : Room) s m args below meth c D (cyT cy) B 2 (eI D (cyT cy) (cW cy A aK X9) B below args s r σ') (cW cy A aK X9 σ) 0 0 0 [(0, .ref (A 14)), (1, .int a1)] [] := by
    refine g_aload_n X dX2_draw_0 rfl 0 rfl ?_
    refine g_aload_n X dX2_draw_1 rfl 0 rfl ?_
    refine g_get X (AD := A) cm14 (cE_14 cy A aK σ) hin2 rfl 0 (by decide) lk0 (fun _ h9 => h9) rfl dX2_draw_2 ?_
    refine g_ldc X dX2_draw_5 lk1 ?_
    refine g_imul X dX2_draw_7 ?_
    refine g_sipush X dX2_draw_8 (v := (12345 : Int32)) (by decide) ?_
    refine g_iadd X dX2_draw_11 ?_
    refine g_put X (AD := A) (ty := .int) (v := .int (((gi σ 112) * (1103515245 : Int32)) + (12345 : Int32))) (σ' := si σ 112 (((gi σ 112) * (1103515245 : Int32)) + (12345 : Int32))) cm14 (cE_14 cy A aK σ) hin2 rfl tyX2 tyX2_ok nmX2 0 (by decide) lk0 (fun _ h9 => h9) rfl (by decide +kernel) rfl rfl (Nat.le_of_ble_eq_true rfl) (sf_c112 cy A aK σ (((gi σ 112) * (1103515245 : Int32)) + (12345 : Int32))) dX2_draw_12 ?_
    obtain ⟨σ_1, e_2, h⟩ := bnd_some h
    have e_2 := Option.some.inj e_2
    rw [e_2]
    refine g_aload_n X dX2_draw_15 rfl 0 rfl ?_
    refine g_get X (AD := A) cm14 (cE_14 cy A aK σ_1) hin2 rfl 0 (by decide) lk0 (fun _ h9 => h9) rfl dX2_draw_16 ?_
    refine g_bipush X dX2_draw_19 (v := (16 : Int32)) (by decide) ?_
    refine g_iushr X dX2_draw_21 ?_
    refine g_iload_n X dX2_draw_22 rfl 1 rfl ?_
    obtain ⟨r_4, hf_3, h⟩ := bnd_some h
    refine g_callNI (AD := A) (As := [.int (((gi σ_1 112).toUInt32 >>> ((16 : Int32).toUInt32 &&& Int32.toUInt32 31)).toInt32), .int a1]) X (ZC_ok _ _ _ _ _) (m_X10_rest hf_3) ⟨va_cnB 2 X.1.2.2.2.2 gX2_draw_X10_rest_n14 rfl rfl rfl (X.2.2.2.1.1.2.2.2.2.2.2 (RX2, 14, yX10_rest) (by simp [zN])) (X.1.2.2.2.2 _ lk2) (by decide +kernel) ⟨Nat.le_of_ble_eq_true rfl, Nat.le_of_ble_eq_true rfl⟩, X.1.2.2.2.2 _ lk3, trivial⟩ rfl rfl (Nat.le_of_ble_eq_true rfl) ⟨Nat.zero_le _, Nat.zero_le _⟩ dX2_draw_23 ?_
    cases h
    exact g_iret (Wf := cW cy A aK X9) X ⟨rfl, rfl⟩ dX2_draw_26
  exact K0
set_option maxHeartbeats 8000000 in
set_option maxRecDepth 100000 in
theorem m_X9_alphabetOf {σ : St} {a1 : Int32} {r : Int32} (h : f_X9_alphabetOf a1 = some r) : mI (ZC aK aO aS aV aT) D (cyT cy) l yX9_alphabetOf wsX9_alphabetOf ({ frames := 0, cells := 0, slots := 0, locals := 0 } : Room) (cW cy A aK X9) [.int a1] σ r σ := by
  unfold f_X9_alphabetOf at h
  refine mI_of (cc := cX9_alphabetOf) (maxL := 1) (ret := (some .int)) (by decide) rfl (Nat.le_of_ble_eq_true rfl) (fun p e s m args below meth c B X => ?_)
  have K0 : gG p l e ({ frames := 0, cells := 0, slots := 0, locals := 0 } : Room) s m args below meth c D (cyT cy) B 1 (eI D (cyT cy) (cW cy A aK X9) B below args s r σ) (cW cy A aK X9 σ) 0 0 0 [(0, .int a1)] [] := by
    refine g_iload_n X dX9_alphabetOf_0 rfl 0 rfl ?_
    refine g_bipush X dX9_alphabetOf_1 (v := (97 : Int32)) (by decide) ?_
    refine g_icmp_lt X (tgt := 14) dX9_alphabetOf_3 (by decide) (fun hc_1 => ?_) (fun hc_1 => ?_)
    · have h := ift hc_1 h
      refine g_iload_n X dX9_alphabetOf_14 rfl 0 rfl ?_
      refine g_bipush X dX9_alphabetOf_15 (v := (48 : Int32)) (by decide) ?_
      obtain ⟨v_3, hj_6, h⟩ := bnd_some h
      have K_4 : gG p l e ({ frames := 0, cells := 0, slots := 0, locals := 0 } : Room) s m args below meth c D (cyT cy) B 1 (eI D (cyT cy) (cW cy A aK X9) B below args s r σ) (cW cy A aK X9 σ) 0 0 31 [] [.int v_3] := by
        cases h
        exact g_iret (Wf := cW cy A aK X9) X ⟨rfl, rfl⟩ dX9_alphabetOf_31
      have h := hj_6
      clear hj_6
      refine g_icmp_lt X (tgt := 30) dX9_alphabetOf_17 (by decide) (fun hc_2 => ?_) (fun hc_2 => ?_)
      · have h := ift hc_2 h
        refine g_iconst X dX9_alphabetOf_30 (v := (-1 : Int32)) (by decide) ?_
        cases h
        exact g_sub [] rfl K_4
      · have h := iff_ hc_2 h
        refine g_iload_n X dX9_alphabetOf_20 rfl 0 rfl ?_
        refine g_bipush X dX9_alphabetOf_21 (v := (57 : Int32)) (by decide) ?_
        refine g_icmp_gt X (tgt := 30) dX9_alphabetOf_23 (by decide) (fun hc_5 => ?_) (fun hc_5 => ?_)
        · have h := ift hc_5 h
          refine g_iconst X dX9_alphabetOf_30 (v := (-1 : Int32)) (by decide) ?_
          cases h
          exact g_sub [] rfl K_4
        · have h := iff_ hc_5 h
          refine g_iconst X dX9_alphabetOf_26 (v := (1 : Int32)) (by decide) ?_
          refine g_goto X (tgt := 31) dX9_alphabetOf_27 (by decide) ?_
          cases h
          exact g_sub [] rfl K_4
    · have h := iff_ hc_1 h
      refine g_iload_n X dX9_alphabetOf_6 rfl 0 rfl ?_
      refine g_bipush X dX9_alphabetOf_7 (v := (122 : Int32)) (by decide) ?_
      refine g_icmp_gt X (tgt := 14) dX9_alphabetOf_9 (by decide) (fun hc_7 => ?_) (fun hc_7 => ?_)
      · have h := ift hc_7 h
        refine g_iload_n X dX9_alphabetOf_14 rfl 0 rfl ?_
        refine g_bipush X dX9_alphabetOf_15 (v := (48 : Int32)) (by decide) ?_
        obtain ⟨v_9, hj_12, h⟩ := bnd_some h
        have K_10 : gG p l e ({ frames := 0, cells := 0, slots := 0, locals := 0 } : Room) s m args below meth c D (cyT cy) B 1 (eI D (cyT cy) (cW cy A aK X9) B below args s r σ) (cW cy A aK X9 σ) 0 0 31 [] [.int v_9] := by
          cases h
          exact g_iret (Wf := cW cy A aK X9) X ⟨rfl, rfl⟩ dX9_alphabetOf_31
        have h := hj_12
        clear hj_12
        refine g_icmp_lt X (tgt := 30) dX9_alphabetOf_17 (by decide) (fun hc_8 => ?_) (fun hc_8 => ?_)
        · have h := ift hc_8 h
          refine g_iconst X dX9_alphabetOf_30 (v := (-1 : Int32)) (by decide) ?_
          cases h
          exact g_sub [] rfl K_10
        · have h := iff_ hc_8 h
          refine g_iload_n X dX9_alphabetOf_20 rfl 0 rfl ?_
          refine g_bipush X dX9_alphabetOf_21 (v := (57 : Int32)) (by decide) ?_
          refine g_icmp_gt X (tgt := 30) dX9_alphabetOf_23 (by decide) (fun hc_11 => ?_) (fun hc_11 => ?_)
          · have h := ift hc_11 h
            refine g_iconst X dX9_alphabetOf_30 (v := (-1 : Int32)) (by decide) ?_
            cases h
            exact g_sub [] rfl K_10
          · have h := iff_ hc_11 h
            refine g_iconst X dX9_alphabetOf_26 (v := (1 : Int32)) (by decide) ?_
            refine g_goto X (tgt := 31) dX9_alphabetOf_27 (by decide) ?_
            cases h
            exact g_sub [] rfl K_10
      · have h := iff_ hc_7 h
        refine g_iconst X dX9_alphabetOf_12 (v := (0 : Int32)) (by decide) ?_
        cases h
        exact g_iret (Wf := cW cy A aK X9) X ⟨rfl, rfl⟩ dX9_alphabetOf_13
  exact K0
set_option maxHeartbeats 8000000 in
set_option maxRecDepth 100000 in
theorem m_X9_toNextToken {σ : St} {σ' : St} (h : f_X9_toNextToken σ = some σ') : mV (ZC aK aO aS aV aT) D (cyT cy) l yX9_toNextToken wsX9_toNextToken ({ frames := 1, cells := 0, slots := 0, locals := 20 } : Room) (cW cy A aK X9) [.ref (A 10)] σ σ' := by
  unfold f_X9_toNextToken at h
  refine mV_of (cc := cX9_toNextToken) (maxL := 2) (ret := none) (by decide) rfl (Nat.le_of_ble_eq_true rfl) (fun p e s m args below meth c B X => ?_)
  have hin9 : ∀ w ∈ wsX90, w ∈ wsX9_toNextToken := by decide +kernel
  have lk0 : Cond.fieldLink RX9 19 "Cardcabinet$Text" "tokenEnd" "I" ∈ wsX9_toNextToken := by decide +kernel
  have lk1 : Cond.fieldLink RX9 25 "Cardcabinet$Text" "tokenStart" "I" ∈ wsX9_toNextToken := by decide +kernel
  have lk2 : Cond.fieldLink RX9 15 "Cardcabinet$Text" "length" "I" ∈ wsX9_toNextToken := by decide +kernel
  have lk3 : Cond.fieldLink RX9 9 "Cardcabinet$Text" "bytes" "[B" ∈ wsX9_toNextToken := by decide +kernel
  have K0 : gG p l e ({ frames := 1, cells := 0, slots := 0, locals := 20 } : Room) s m args below meth c D (cyT cy) B 2 (eV D (cyT cy) (cW cy A aK X9) B below args s σ') (cW cy A aK X9 σ) 0 0 0 [(0, .ref (A 10))] [] := by
    refine g_aload_n X dX9_toNextToken_0 rfl 0 rfl ?_
    refine g_aload_n X dX9_toNextToken_1 rfl 0 rfl ?_
    refine g_get X (AD := A) cm10 (cE_10 cy A aK σ) hin9 rfl 3 (by decide) lk0 (fun _ h9 => h9) rfl dX9_toNextToken_2 ?_
    refine g_put X (AD := A) (ty := .int) (v := .int (gi σ 83)) (σ' := si σ 82 (gi σ 83)) cm10 (cE_10 cy A aK σ) hin9 rfl tyX9 tyX9_ok nmX9 2 (by decide) lk1 (fun _ h9 => h9) rfl (by decide +kernel) rfl rfl (Nat.le_of_ble_eq_true rfl) (sf_c82 cy A aK σ (gi σ 83)) dX9_toNextToken_5 ?_
    have L_6 : ∀ (n_2 : Nat) (σ_1 : St) (σ_7 : St), f_X9_toNextToken_L8 n_2 σ_1 = some (σ_7) → gG p l e ({ frames := 1, cells := 0, slots := 0, locals := 20 } : Room) s m args below meth c D (cyT cy) B 2 (eV D (cyT cy) (cW cy A aK X9) B below args s σ') (cW cy A aK X9 σ_7) 0 0 46 [(0, .ref (A 10))] [] → gG p l e ({ frames := 1, cells := 0, slots := 0, locals := 20 } : Room) s m args below meth c D (cyT cy) B 2 (eV D (cyT cy) (cW cy A aK X9) B below args s σ') (cW cy A aK X9 σ_1) 0 0 8 [(0, .ref (A 10))] [] := by
      intro n_2
      induction n_2 with
      | zero =>
        intro σ_1 σ_7 h K_4
        rw [f_X9_toNextToken_L8] at h
        cases h
      | succ n_2 ih_3 =>
        intro σ_1 σ_7 h K_4
        rw [f_X9_toNextToken_L8] at h
        refine g_aload_n X dX9_toNextToken_8 rfl 0 rfl ?_
        refine g_get X (AD := A) cm10 (cE_10 cy A aK σ_1) hin9 rfl 2 (by decide) lk1 (fun _ h9 => h9) rfl dX9_toNextToken_9 ?_
        refine g_aload_n X dX9_toNextToken_12 rfl 0 rfl ?_
        refine g_get X (AD := A) cm10 (cE_10 cy A aK σ_1) hin9 rfl 1 (by decide) lk2 (fun _ h9 => h9) rfl dX9_toNextToken_13 ?_
        refine g_icmp_ge X (tgt := 46) dX9_toNextToken_16 (by decide) (fun hc_8 => ?_) (fun hc_8 => ?_)
        · have h := ift hc_8 h
          cases h
          exact g_sub [0] rfl K_4
        · have h := iff_ hc_8 h
          refine g_aload_n X dX9_toNextToken_19 rfl 0 rfl ?_
          refine g_get X (AD := A) cm10 (cE_10 cy A aK σ_1) hin9 rfl 0 (by decide) lk3 (fun _ h9 => h9) rfl dX9_toNextToken_20 ?_
          refine g_aload_n X dX9_toNextToken_23 rfl 0 rfl ?_
          refine g_get X (AD := A) cm10 (cE_10 cy A aK σ_1) hin9 rfl 2 (by decide) lk1 (fun _ h9 => h9) rfl dX9_toNextToken_24 ?_
          obtain ⟨hg_9, h⟩ := grd_some h
          refine g_bald X (AD := A) cm11 (cE_11 cy A aK σ_1) 1 rfl hg_9 dX9_toNextToken_27 ?_
          refine g_bipush X dX9_toNextToken_28 (v := (32 : Int32)) (by decide) ?_
          refine g_icmp_ne X (tgt := 46) dX9_toNextToken_30 (by decide) (fun hc_10 => ?_) (fun hc_10 => ?_)
          · have h := iff_ hc_10 h
            cases h
            exact g_sub [0] rfl K_4
          · have h := ift hc_10 h
            refine g_aload_n X dX9_toNextToken_33 rfl 0 rfl ?_
            refine g_dup X dX9_toNextToken_34 rfl ?_
            refine g_get X (AD := A) cm10 (cE_10 cy A aK σ_1) hin9 rfl 2 (by decide) lk1 (fun _ h9 => h9) rfl dX9_toNextToken_35 ?_
            refine g_iconst X dX9_toNextToken_38 (v := (1 : Int32)) (by decide) ?_
            refine g_iadd X dX9_toNextToken_39 ?_
            refine g_put X (AD := A) (ty := .int) (v := .int ((gi σ_1 82) + (1 : Int32))) (σ' := si σ_1 82 ((gi σ_1 82) + (1 : Int32))) cm10 (cE_10 cy A aK σ_1) hin9 rfl tyX9 tyX9_ok nmX9 2 (by decide) lk1 (fun _ h9 => h9) rfl (by decide +kernel) rfl rfl (Nat.le_of_ble_eq_true rfl) (sf_c82 cy A aK σ_1 ((gi σ_1 82) + (1 : Int32))) dX9_toNextToken_40 ?_
            refine g_goto X (tgt := 8) dX9_toNextToken_43 (by decide) ?_
            exact g_sub [0] rfl (ih_3 _ _ h K_4)
    obtain ⟨σ_7, hl_11, h⟩ := bnd_some h
    refine g_sub [0] rfl (L_6 FU (si σ 82 (gi σ 83)) σ_7 hl_11 ?_)
    refine g_aload_n X dX9_toNextToken_46 rfl 0 rfl ?_
    refine g_aload_n X dX9_toNextToken_47 rfl 0 rfl ?_
    refine g_get X (AD := A) cm10 (cE_10 cy A aK σ_7) hin9 rfl 2 (by decide) lk1 (fun _ h9 => h9) rfl dX9_toNextToken_48 ?_
    refine g_put X (AD := A) (ty := .int) (v := .int (gi σ_7 82)) (σ' := si σ_7 83 (gi σ_7 82)) cm10 (cE_10 cy A aK σ_7) hin9 rfl tyX9 tyX9_ok nmX9 3 (by decide) lk0 (fun _ h9 => h9) rfl (by decide +kernel) rfl rfl (Nat.le_of_ble_eq_true rfl) (sf_c83 cy A aK σ_7 (gi σ_7 82)) dX9_toNextToken_51 ?_
    refine g_aload_n X dX9_toNextToken_54 rfl 0 rfl ?_
    refine g_get X (AD := A) cm10 (cE_10 cy A aK (si σ_7 83 (gi σ_7 82))) hin9 rfl 2 (by decide) lk1 (fun _ h9 => h9) rfl dX9_toNextToken_55 ?_
    refine g_aload_n X dX9_toNextToken_58 rfl 0 rfl ?_
    refine g_get X (AD := A) cm10 (cE_10 cy A aK (si σ_7 83 (gi σ_7 82))) hin9 rfl 1 (by decide) lk2 (fun _ h9 => h9) rfl dX9_toNextToken_59 ?_
    refine g_icmp_lt X (tgt := 66) dX9_toNextToken_62 (by decide) (fun hc_12 => ?_) (fun hc_12 => ?_)
    · have h := ift hc_12 h
      refine g_aload_n X dX9_toNextToken_66 rfl 0 rfl ?_
      refine g_get X (AD := A) cm10 (cE_10 cy A aK (si σ_7 83 (gi σ_7 82))) hin9 rfl 0 (by decide) lk3 (fun _ h9 => h9) rfl dX9_toNextToken_67 ?_
      refine g_aload_n X dX9_toNextToken_70 rfl 0 rfl ?_
      refine g_get X (AD := A) cm10 (cE_10 cy A aK (si σ_7 83 (gi σ_7 82))) hin9 rfl 2 (by decide) lk1 (fun _ h9 => h9) rfl dX9_toNextToken_71 ?_
      obtain ⟨hg_13, h⟩ := grd_some h
      refine g_bald X (AD := A) cm11 (cE_11 cy A aK (si σ_7 83 (gi σ_7 82))) 1 rfl hg_13 dX9_toNextToken_74 ?_
      obtain ⟨r_15, hf_14, h⟩ := bnd_some h
      refine g_callSI (AD := A) (As := [.int (gr (si σ_7 83 (gi σ_7 82)) 11 (gi (si σ_7 83 (gi σ_7 82)) 82).toNatClampNeg)]) X (ZC_ok _ _ _ _ _) (m_X9_alphabetOf hf_14) (va_cwS 1 X.1.2.2.2.2 gX9_toNextToken_X9_alphabetOf rfl rfl rfl (by decide +kernel) ⟨Nat.le_of_ble_eq_true rfl, Nat.le_of_ble_eq_true rfl⟩) rfl rfl (Nat.le_of_ble_eq_true rfl) ⟨Nat.zero_le _, Nat.zero_le _⟩ dX9_toNextToken_75 ?_
      refine g_istore_n X dX9_toNextToken_78 rfl (by decide) (lv' := [(1, .int r_15), (0, .ref (A 10))]) rfl ?_
      refine g_aload_n X dX9_toNextToken_79 rfl 1 rfl ?_
      refine g_dup X dX9_toNextToken_80 rfl ?_
      refine g_get X (AD := A) cm10 (cE_10 cy A aK (si σ_7 83 (gi σ_7 82))) hin9 rfl 3 (by decide) lk0 (fun _ h9 => h9) rfl dX9_toNextToken_81 ?_
      refine g_iconst X dX9_toNextToken_84 (v := (1 : Int32)) (by decide) ?_
      refine g_iadd X dX9_toNextToken_85 ?_
      refine g_put X (AD := A) (ty := .int) (v := .int ((gi (si σ_7 83 (gi σ_7 82)) 83) + (1 : Int32))) (σ' := si (si σ_7 83 (gi σ_7 82)) 83 ((gi (si σ_7 83 (gi σ_7 82)) 83) + (1 : Int32))) cm10 (cE_10 cy A aK (si σ_7 83 (gi σ_7 82))) hin9 rfl tyX9 tyX9_ok nmX9 3 (by decide) lk0 (fun _ h9 => h9) rfl (by decide +kernel) rfl rfl (Nat.le_of_ble_eq_true rfl) (sf_c83 cy A aK (si σ_7 83 (gi σ_7 82)) ((gi (si σ_7 83 (gi σ_7 82)) 83) + (1 : Int32))) dX9_toNextToken_86 ?_
      obtain ⟨σ_16, e_17, h⟩ := bnd_some h
      have e_17 := Option.some.inj e_17
      rw [e_17]
      have L_24 : ∀ (c_18 : Int32) (n_20 : Nat) (σ_19 : St) (σ_25 : St), f_X9_toNextToken_L89 c_18 n_20 σ_19 = some (σ_25) → gG p l e ({ frames := 1, cells := 0, slots := 0, locals := 20 } : Room) s m args below meth c D (cyT cy) B 2 (eV D (cyT cy) (cW cy A aK X9) B below args s σ') (cW cy A aK X9 σ_25) 0 0 134 [] [] → gG p l e ({ frames := 1, cells := 0, slots := 0, locals := 20 } : Room) s m args below meth c D (cyT cy) B 2 (eV D (cyT cy) (cW cy A aK X9) B below args s σ') (cW cy A aK X9 σ_19) 0 0 89 [(0, .ref (A 10)), (1, .int c_18)] [] := by
        intro c_18 n_20
        induction n_20 with
        | zero =>
          intro σ_19 σ_25 h K_22
          rw [f_X9_toNextToken_L89] at h
          cases h
        | succ n_20 ih_21 =>
          intro σ_19 σ_25 h K_22
          rw [f_X9_toNextToken_L89] at h
          refine g_aload_n X dX9_toNextToken_89 rfl 0 rfl ?_
          refine g_get X (AD := A) cm10 (cE_10 cy A aK σ_19) hin9 rfl 3 (by decide) lk0 (fun _ h9 => h9) rfl dX9_toNextToken_90 ?_
          refine g_aload_n X dX9_toNextToken_93 rfl 0 rfl ?_
          refine g_get X (AD := A) cm10 (cE_10 cy A aK σ_19) hin9 rfl 1 (by decide) lk2 (fun _ h9 => h9) rfl dX9_toNextToken_94 ?_
          refine g_icmp_ge X (tgt := 134) dX9_toNextToken_97 (by decide) (fun hc_26 => ?_) (fun hc_26 => ?_)
          · have h := ift hc_26 h
            cases h
            exact g_sub [] rfl K_22
          · have h := iff_ hc_26 h
            refine g_iload_n X dX9_toNextToken_100 rfl 1 rfl ?_
            refine g_iconst X dX9_toNextToken_101 (v := (-1 : Int32)) (by decide) ?_
            refine g_icmp_eq X (tgt := 134) dX9_toNextToken_102 (by decide) (fun hc_27 => ?_) (fun hc_27 => ?_)
            · have h := ift hc_27 h
              cases h
              exact g_sub [] rfl K_22
            · have h := iff_ hc_27 h
              refine g_aload_n X dX9_toNextToken_105 rfl 0 rfl ?_
              refine g_get X (AD := A) cm10 (cE_10 cy A aK σ_19) hin9 rfl 0 (by decide) lk3 (fun _ h9 => h9) rfl dX9_toNextToken_106 ?_
              refine g_aload_n X dX9_toNextToken_109 rfl 0 rfl ?_
              refine g_get X (AD := A) cm10 (cE_10 cy A aK σ_19) hin9 rfl 3 (by decide) lk0 (fun _ h9 => h9) rfl dX9_toNextToken_110 ?_
              obtain ⟨hg_28, h⟩ := grd_some h
              refine g_bald X (AD := A) cm11 (cE_11 cy A aK σ_19) 1 rfl hg_28 dX9_toNextToken_113 ?_
              obtain ⟨r_30, hf_29, h⟩ := bnd_some h
              refine g_callSI (AD := A) (As := [.int (gr σ_19 11 (gi σ_19 83).toNatClampNeg)]) X (ZC_ok _ _ _ _ _) (m_X9_alphabetOf hf_29) (va_cwS 1 X.1.2.2.2.2 gX9_toNextToken_X9_alphabetOf rfl rfl rfl (by decide +kernel) ⟨Nat.le_of_ble_eq_true rfl, Nat.le_of_ble_eq_true rfl⟩) rfl rfl (Nat.le_of_ble_eq_true rfl) ⟨Nat.zero_le _, Nat.zero_le _⟩ dX9_toNextToken_114 ?_
              refine g_iload_n X dX9_toNextToken_117 rfl 1 rfl ?_
              refine g_icmp_ne X (tgt := 134) dX9_toNextToken_118 (by decide) (fun hc_31 => ?_) (fun hc_31 => ?_)
              · have h := iff_ hc_31 h
                cases h
                exact g_sub [] rfl K_22
              · have h := ift hc_31 h
                refine g_aload_n X dX9_toNextToken_121 rfl 0 rfl ?_
                refine g_dup X dX9_toNextToken_122 rfl ?_
                refine g_get X (AD := A) cm10 (cE_10 cy A aK σ_19) hin9 rfl 3 (by decide) lk0 (fun _ h9 => h9) rfl dX9_toNextToken_123 ?_
                refine g_iconst X dX9_toNextToken_126 (v := (1 : Int32)) (by decide) ?_
                refine g_iadd X dX9_toNextToken_127 ?_
                refine g_put X (AD := A) (ty := .int) (v := .int ((gi σ_19 83) + (1 : Int32))) (σ' := si σ_19 83 ((gi σ_19 83) + (1 : Int32))) cm10 (cE_10 cy A aK σ_19) hin9 rfl tyX9 tyX9_ok nmX9 3 (by decide) lk0 (fun _ h9 => h9) rfl (by decide +kernel) rfl rfl (Nat.le_of_ble_eq_true rfl) (sf_c83 cy A aK σ_19 ((gi σ_19 83) + (1 : Int32))) dX9_toNextToken_128 ?_
                refine g_goto X (tgt := 89) dX9_toNextToken_131 (by decide) ?_
                exact g_sub [0, 1] rfl (ih_21 _ _ h K_22)
      obtain ⟨σ_25, hl_32, h⟩ := bnd_some h
      refine g_sub [1, 0] rfl (L_24 r_15 FU σ_16 σ_25 hl_32 ?_)
      cases h
      exact g_vret (Wf := cW cy A aK X9) X rfl dX9_toNextToken_134
    · have h := iff_ hc_12 h
      cases h
      exact g_vret (Wf := cW cy A aK X9) X rfl dX9_toNextToken_65
  exact K0
set_option maxHeartbeats 8000000 in
set_option maxRecDepth 100000 in
theorem m_X9_toFirstToken {σ : St} {σ' : St} (h : f_X9_toFirstToken σ = some σ') : mV (ZC aK aO aS aV aT) D (cyT cy) l yX9_toFirstToken wsX9_toFirstToken ({ frames := 2, cells := 0, slots := 0, locals := 41 } : Room) (cW cy A aK X9) [.ref (A 10)] σ σ' := by
  unfold f_X9_toFirstToken at h
  refine mV_of (cc := cX9_toFirstToken) (maxL := 1) (ret := none) (by decide) rfl (Nat.le_of_ble_eq_true rfl) (fun p e s m args below meth c B X => ?_)
  have hin9 : ∀ w ∈ wsX90, w ∈ wsX9_toFirstToken := by decide +kernel
  have lk0 : Cond.fieldLink RX9 19 "Cardcabinet$Text" "tokenEnd" "I" ∈ wsX9_toFirstToken := by decide +kernel
  have K0 : gG p l e ({ frames := 2, cells := 0, slots := 0, locals := 41 } : Room) s m args below meth c D (cyT cy) B 1 (eV D (cyT cy) (cW cy A aK X9) B below args s σ') (cW cy A aK X9 σ) 0 0 0 [(0, .ref (A 10))] [] := by
    refine g_aload_n X dX9_toFirstToken_0 rfl 0 rfl ?_
    refine g_iconst X dX9_toFirstToken_1 (v := (0 : Int32)) (by decide) ?_
    refine g_put X (AD := A) (ty := .int) (v := .int (0 : Int32)) (σ' := si σ 83 (0 : Int32)) cm10 (cE_10 cy A aK σ) hin9 rfl tyX9 tyX9_ok nmX9 3 (by decide) lk0 (fun _ h9 => h9) rfl (by decide +kernel) rfl rfl (Nat.le_of_ble_eq_true rfl) (sf_c83 cy A aK σ (0 : Int32)) dX9_toFirstToken_2 ?_
    refine g_aload_n X dX9_toFirstToken_5 rfl 0 rfl ?_
    obtain ⟨σ_2, hf_1, h⟩ := bnd_some h
    refine g_callVV (AD := A) (As := []) X (ZC_ok _ _ _ _ _) (m_X9_toNextToken hf_1) (cwV 0 X.1.2.2.2.2 gX9_toFirstToken_X9_toNextToken rfl rfl rfl (by decide +kernel) ⟨Nat.le_of_ble_eq_true rfl, Nat.le_of_ble_eq_true rfl⟩) rfl cm10 (cE_10 cy A aK (si σ 83 (0 : Int32))) rfl rfl (Nat.le_of_ble_eq_true rfl) ⟨Nat.zero_le _, Nat.zero_le _⟩ dX9_toFirstToken_6 ?_
    cases h
    exact g_vret (Wf := cW cy A aK X9) X rfl dX9_toFirstToken_9
  exact K0
set_option maxHeartbeats 8000000 in
set_option maxRecDepth 100000 in
theorem m_X9_isAtEnd {σ : St} {r : Int32} (h : f_X9_isAtEnd σ = some r) : mI (ZC aK aO aS aV aT) D (cyT cy) l yX9_isAtEnd wsX9_isAtEnd ({ frames := 0, cells := 0, slots := 0, locals := 0 } : Room) (cW cy A aK X9) [.ref (A 10)] σ r σ := by
  unfold f_X9_isAtEnd at h
  refine mI_of (cc := cX9_isAtEnd) (maxL := 1) (ret := (some .boolean)) (by decide) rfl (Nat.le_of_ble_eq_true rfl) (fun p e s m args below meth c B X => ?_)
  have hin9 : ∀ w ∈ wsX90, w ∈ wsX9_isAtEnd := by decide +kernel
  have lk0 : Cond.fieldLink RX9 25 "Cardcabinet$Text" "tokenStart" "I" ∈ wsX9_isAtEnd := by decide +kernel
  have lk1 : Cond.fieldLink RX9 15 "Cardcabinet$Text" "length" "I" ∈ wsX9_isAtEnd := by decide +kernel
  have K0 : gG p l e ({ frames := 0, cells := 0, slots := 0, locals := 0 } : Room) s m args below meth c D (cyT cy) B 1 (eI D (cyT cy) (cW cy A aK X9) B below args s r σ) (cW cy A aK X9 σ) 0 0 0 [(0, .ref (A 10))] [] := by
    refine g_aload_n X dX9_isAtEnd_0 rfl 0 rfl ?_
    refine g_get X (AD := A) cm10 (cE_10 cy A aK σ) hin9 rfl 2 (by decide) lk0 (fun _ h9 => h9) rfl dX9_isAtEnd_1 ?_
    refine g_aload_n X dX9_isAtEnd_4 rfl 0 rfl ?_
    refine g_get X (AD := A) cm10 (cE_10 cy A aK σ) hin9 rfl 1 (by decide) lk1 (fun _ h9 => h9) rfl dX9_isAtEnd_5 ?_
    obtain ⟨v_2, hj_5, h⟩ := bnd_some h
    have K_3 : gG p l e ({ frames := 0, cells := 0, slots := 0, locals := 0 } : Room) s m args below meth c D (cyT cy) B 1 (eI D (cyT cy) (cW cy A aK X9) B below args s r σ) (cW cy A aK X9 σ) 0 0 16 [] [.int v_2] := by
      obtain ⟨hg_4, h⟩ := grd_some h
      cases h
      exact g_zret (Wf := cW cy A aK X9) X (nar01 hg_4) ⟨rfl, rfl⟩ dX9_isAtEnd_16
    have h := hj_5
    clear hj_5
    refine g_icmp_lt X (tgt := 15) dX9_isAtEnd_8 (by decide) (fun hc_1 => ?_) (fun hc_1 => ?_)
    · have h := ift hc_1 h
      refine g_iconst X dX9_isAtEnd_15 (v := (0 : Int32)) (by decide) ?_
      cases h
      exact g_sub [] rfl K_3
    · have h := iff_ hc_1 h
      refine g_iconst X dX9_isAtEnd_11 (v := (1 : Int32)) (by decide) ?_
      refine g_goto X (tgt := 16) dX9_isAtEnd_12 (by decide) ?_
      cases h
      exact g_sub [] rfl K_3
  exact K0
set_option maxHeartbeats 8000000 in
set_option maxRecDepth 100000 in
theorem m_X9_isToken {σ : St} {a1 : Nat} {r : Int32} (h1 : a1 < 9) (h : f_X9_isToken a1 σ = some r) : mI (ZC aK aO aS aV aT) D (cyT cy) l yX9_isToken wsX9_isToken ({ frames := 6, cells := 0, slots := 0, locals := 180 } : Room) (cW cy A aK X9) [.ref (A 10), .ref (aS a1)] σ r σ := by
  unfold f_X9_isToken at h
  refine mI_of (cc := cX9_isToken) (maxL := 3) (ret := (some .boolean)) (by decide) rfl (Nat.le_of_ble_eq_true rfl) (fun p e s m args below meth c B X => ?_)
  have hin9 : ∀ w ∈ wsX90, w ∈ wsX9_isToken := by decide +kernel
  have lk0 : Cond.fieldLink RX9 19 "Cardcabinet$Text" "tokenEnd" "I" ∈ wsX9_isToken := by decide +kernel
  have lk1 : Cond.fieldLink RX9 25 "Cardcabinet$Text" "tokenStart" "I" ∈ wsX9_isToken := by decide +kernel
  have lk2 : Cond.fieldLink RX9 9 "Cardcabinet$Text" "bytes" "[B" ∈ wsX9_isToken := by decide +kernel
  have K0 : gG p l e ({ frames := 6, cells := 0, slots := 0, locals := 180 } : Room) s m args below meth c D (cyT cy) B 3 (eI D (cyT cy) (cW cy A aK X9) B below args s r σ) (cW cy A aK X9 σ) 0 0 0 [(0, .ref (A 10)), (1, .ref (aS a1))] [] := by
    refine g_aload_n X dX9_isToken_0 rfl 0 rfl ?_
    refine g_get X (AD := A) cm10 (cE_10 cy A aK σ) hin9 rfl 3 (by decide) lk0 (fun _ h9 => h9) rfl dX9_isToken_1 ?_
    refine g_aload_n X dX9_isToken_4 rfl 0 rfl ?_
    refine g_get X (AD := A) cm10 (cE_10 cy A aK σ) hin9 rfl 2 (by decide) lk1 (fun _ h9 => h9) rfl dX9_isToken_5 ?_
    refine g_isub X dX9_isToken_8 ?_
    refine g_aload_n X dX9_isToken_9 rfl 1 rfl ?_
    refine g_slen X (ZC_ok _ _ _ _ _) h1 gX9_isToken_J0_length_8abf5 ⟨Nat.le_of_ble_eq_true rfl, Nat.le_of_ble_eq_true rfl⟩ (Nat.le_of_ble_eq_true rfl) ⟨Nat.zero_le _, Nat.zero_le _⟩ dX9_isToken_10 ?_
    refine g_icmp_eq X (tgt := 18) dX9_isToken_13 (by decide) (fun hc_1 => ?_) (fun hc_1 => ?_)
    · have h := ift hc_1 h
      refine g_aload_n X dX9_isToken_18 rfl 0 rfl ?_
      refine g_get X (AD := A) cm10 (cE_10 cy A aK σ) hin9 rfl 2 (by decide) lk1 (fun _ h9 => h9) rfl dX9_isToken_19 ?_
      refine g_istore_n X dX9_isToken_22 rfl (by decide) (lv' := [(2, .int (gi σ 82)), (0, .ref (A 10)), (1, .ref (aS a1))]) rfl ?_
      have L_10 : ∀ (c_2 : Nat) (hp_3 : c_2 < 9) (σ_5 : St) (hq_12 : σ_5 = σ) (n_6 : Nat) (v_4 : Int32) (o_17 : (Int32) ⊕ (Unit)), f_X9_isToken_L23 c_2 σ_5 n_6 v_4 = some o_17 → (∀ (u_11 : Unit), o_17 = .inr (u_11) → gG p l e ({ frames := 6, cells := 0, slots := 0, locals := 180 } : Room) s m args below meth c D (cyT cy) B 3 (eI D (cyT cy) (cW cy A aK X9) B below args s r σ) (cW cy A aK X9 σ_5) 0 0 58 [] []) → (∀ r8, o_17 = .inl r8 → r8 = r) → gG p l e ({ frames := 6, cells := 0, slots := 0, locals := 180 } : Room) s m args below meth c D (cyT cy) B 3 (eI D (cyT cy) (cW cy A aK X9) B below args s r σ) (cW cy A aK X9 σ_5) 0 0 23 [(0, .ref (A 10)), (1, .ref (aS c_2)), (2, .int v_4)] [] := by
        intro c_2 hp_3 σ_5 hq_12 n_6
        induction n_6 with
        | zero =>
          intro v_4 o_17 h K_8 K_9
          rw [f_X9_isToken_L23] at h
          cases h
        | succ n_6 ih_7 =>
          intro v_4 o_17 h K_8 K_9
          rw [f_X9_isToken_L23] at h
          refine g_iload_n X dX9_isToken_23 rfl 2 rfl ?_
          refine g_aload_n X dX9_isToken_24 rfl 0 rfl ?_
          refine g_get X (AD := A) cm10 (cE_10 cy A aK σ_5) hin9 rfl 3 (by decide) lk0 (fun _ h9 => h9) rfl dX9_isToken_25 ?_
          refine g_icmp_ge X (tgt := 58) dX9_isToken_28 (by decide) (fun hc_13 => ?_) (fun hc_13 => ?_)
          · have h := ift hc_13 h
            cases h
            exact g_sub [] rfl (K_8 _ rfl)
          · have h := iff_ hc_13 h
            refine g_aload_n X dX9_isToken_31 rfl 0 rfl ?_
            refine g_get X (AD := A) cm10 (cE_10 cy A aK σ_5) hin9 rfl 0 (by decide) lk2 (fun _ h9 => h9) rfl dX9_isToken_32 ?_
            refine g_iload_n X dX9_isToken_35 rfl 2 rfl ?_
            obtain ⟨hg_14, h⟩ := grd_some h
            refine g_bald X (AD := A) cm11 (cE_11 cy A aK σ_5) 1 rfl hg_14 dX9_isToken_36 ?_
            refine g_aload_n X dX9_isToken_37 rfl 1 rfl ?_
            refine g_iload_n X dX9_isToken_38 rfl 2 rfl ?_
            refine g_aload_n X dX9_isToken_39 rfl 0 rfl ?_
            refine g_get X (AD := A) cm10 (cE_10 cy A aK σ_5) hin9 rfl 2 (by decide) lk1 (fun _ h9 => h9) rfl dX9_isToken_40 ?_
            refine g_isub X dX9_isToken_43 ?_
            obtain ⟨hg_15, h⟩ := grd_some h
            refine g_sch X (ZC_ok _ _ _ _ _) hp_3 hg_15 gX9_isToken_J0_charAt_5068e ⟨Nat.le_of_ble_eq_true rfl, Nat.le_of_ble_eq_true rfl⟩ (Nat.le_of_ble_eq_true rfl) ⟨Nat.zero_le _, Nat.zero_le _⟩ dX9_isToken_44 ?_
            refine g_icmp_eq X (tgt := 52) dX9_isToken_47 (by decide) (fun hc_16 => ?_) (fun hc_16 => ?_)
            · have h := ift hc_16 h
              refine g_iinc X dX9_isToken_52 2 rfl (v := v_4 + (1 : Int32)) rfl (by decide) (lv' := [(2, .int (v_4 + (1 : Int32))), (0, .ref (A 10)), (1, .ref (aS c_2))]) rfl ?_
              refine g_goto X (tgt := 23) dX9_isToken_55 (by decide) ?_
              exact g_sub [1, 2, 0] rfl (ih_7 _ _ h K_8 K_9)
            · have h := iff_ hc_16 h
              refine g_iconst X dX9_isToken_50 (v := (0 : Int32)) (by decide) ?_
              cases h
              cases K_9 _ rfl
              exact g_zret (Wf := cW cy A aK X9) X rfl ⟨rfl, hq_12⟩ dX9_isToken_51
      rcases bndR_some h with ⟨r9, hl_18, he9⟩ | ⟨o9, hl_18, h⟩
      · exact g_sub [1, 2, 0] rfl (L_10 a1 h1 σ rfl FU (gi σ 82) (.inl r9) hl_18 (fun u_11 e9 => nomatch e9) (fun r8 e9 => by cases e9; exact he9))
      · obtain ⟨u_11, rfl⟩ : ∃ z, z = o9 := ⟨_, rfl⟩
        refine g_sub [1, 2, 0] rfl (L_10 a1 h1 σ rfl FU (gi σ 82) (.inr u_11) hl_18 (fun u_11z e9 => ?_) (fun r8 e9 => nomatch e9))
        cases e9
        refine g_iconst X dX9_isToken_58 (v := (1 : Int32)) (by decide) ?_
        cases h
        exact g_zret (Wf := cW cy A aK X9) X rfl ⟨rfl, rfl⟩ dX9_isToken_59
    · have h := iff_ hc_1 h
      refine g_iconst X dX9_isToken_16 (v := (0 : Int32)) (by decide) ?_
      cases h
      exact g_zret (Wf := cW cy A aK X9) X rfl ⟨rfl, rfl⟩ dX9_isToken_17
  exact K0
set_option maxHeartbeats 8000000 in
set_option maxRecDepth 100000 in
theorem m_X5_readToken {σ : St} {a1 : Nat} {r : Int32} {σ' : St} (h1 : a1 < 9) (h : f_X5_readToken a1 σ = some (r, σ')) : mI (ZC aK aO aS aV aT) D (cyT cy) l yX5_readToken wsX5_readToken ({ frames := 7, cells := 0, slots := 0, locals := 202 } : Room) (cW cy A aK X9) [.ref (A 12), .ref (aS a1)] σ r σ' := by
  unfold f_X5_readToken at h
  refine mI_of (cc := cX5_readToken) (maxL := 2) (ret := (some .boolean)) (by decide) rfl (Nat.le_of_ble_eq_true rfl) (fun p e s m args below meth c B X => ?_)
  have hin5 : ∀ w ∈ wsX50, w ∈ wsX5_readToken := by decide +kernel
  have lk0 : Cond.fieldLink RX5 17 "Cardcabinet$Parser" "text" "LCardcabinet$Text;" ∈ wsX5_readToken := by decide +kernel
  have K0 : gG p l e ({ frames := 7, cells := 0, slots := 0, locals := 202 } : Room) s m args below meth c D (cyT cy) B 2 (eI D (cyT cy) (cW cy A aK X9) B below args s r σ') (cW cy A aK X9 σ) 0 0 0 [(0, .ref (A 12)), (1, .ref (aS a1))] [] := by
    refine g_aload_n X dX5_readToken_0 rfl 0 rfl ?_
    refine g_get X (AD := A) cm12 (cE_12 cy A aK σ) hin5 rfl 0 (by decide) lk0 (fun _ h9 => h9) rfl dX5_readToken_1 ?_
    refine g_aload_n X dX5_readToken_4 rfl 1 rfl ?_
    obtain ⟨r_2, hf_1, h⟩ := bnd_some h
    refine g_callVI (AD := A) (As := [.ref (aS a1)]) X (ZC_ok _ _ _ _ _) (m_X9_isToken h1 hf_1) (cwV 1 X.1.2.2.2.2 gX5_readToken_X9_isToken rfl rfl rfl (by decide +kernel) ⟨Nat.le_of_ble_eq_true rfl, Nat.le_of_ble_eq_true rfl⟩) rfl cm10 (cE_10 cy A aK σ) rfl rfl (Nat.le_of_ble_eq_true rfl) ⟨Nat.zero_le _, Nat.zero_le _⟩ dX5_readToken_5 ?_
    refine g_if_ne X (tgt := 13) dX5_readToken_8 (by decide) (fun hc_3 => ?_) (fun hc_3 => ?_)
    · have h := iff_ hc_3 h
      refine g_aload_n X dX5_readToken_13 rfl 0 rfl ?_
      refine g_get X (AD := A) cm12 (cE_12 cy A aK σ) hin5 rfl 0 (by decide) lk0 (fun _ h9 => h9) rfl dX5_readToken_14 ?_
      obtain ⟨σ_5, hf_4, h⟩ := bnd_some h
      refine g_callVV (AD := A) (As := []) X (ZC_ok _ _ _ _ _) (m_X9_toNextToken hf_4) (cwV 0 X.1.2.2.2.2 gX5_readToken_X9_toNextToken rfl rfl rfl (by decide +kernel) ⟨Nat.le_of_ble_eq_true rfl, Nat.le_of_ble_eq_true rfl⟩) rfl cm10 (cE_10 cy A aK σ) rfl rfl (Nat.le_of_ble_eq_true rfl) ⟨Nat.zero_le _, Nat.zero_le _⟩ dX5_readToken_17 ?_
      refine g_iconst X dX5_readToken_20 (v := (1 : Int32)) (by decide) ?_
      cases h
      exact g_zret (Wf := cW cy A aK X9) X rfl ⟨rfl, rfl⟩ dX5_readToken_21
    · have h := ift hc_3 h
      refine g_iconst X dX5_readToken_11 (v := (0 : Int32)) (by decide) ?_
      cases h
      exact g_zret (Wf := cW cy A aK X9) X rfl ⟨rfl, rfl⟩ dX5_readToken_12
  exact K0
end MV
