section MV
variable {D : va_G} {cy : Nat → ClassId} {A aK aO aS aV aT : Nat → Nat} {l : Launch} {X9 : va_W}
set_option maxHeartbeats 8000000 in
set_option maxRecDepth 100000 in
theorem m_X7_firstOf {σ : St} {a0 : Nat} {a1 : Int32} {r : Int32} {σ' : St} (h0 : isRun a0) (h : f_X7_firstOf a0 a1 σ = some (r, σ')) : mI (ZC aK aO aS aV aT) D (cyT cy) l yX7_firstOf wsX7_firstOf ({ frames := 2, cells := 0, slots := 0, locals := 42 } : Room) (cW cy A aK X9) [.ref (A a0), .int a1, .ref (A 14)] σ r σ' := by
  unfold f_X7_firstOf at h
  refine mI_of (cc := cX7_firstOf) (maxL := 3) (ret := (some .int)) (by decide) rfl (Nat.le_of_ble_eq_true rfl) (fun p e s m args below meth c B X => ?_)
  have hin7 : ∀ w ∈ wsX70, w ∈ wsX7_firstOf := by decide +kernel
  have lk0 : Cond.fieldLink RX7 18 "Cardcabinet$1" "$SwitchMap$Cardcabinet$Kind" "[I" ∈ wsX7_firstOf := by decide +kernel
  have lk1 : Cond.fieldLink RX7 13 "Cardcabinet$Run" "kind" "LCardcabinet$Kind;" ∈ wsX7_firstOf := by decide +kernel
  have lk2 : Cond.fieldLink RX7 28 "Cardcabinet$Run" "start" "I" ∈ wsX7_firstOf := by decide +kernel
  have lk3 : Cond.fieldLink RX7 32 "Cardcabinet$Run" "step" "I" ∈ wsX7_firstOf := by decide +kernel
  have lk4 : Cond.fieldLink RX7 35 "Cardcabinet$Run" "length" "I" ∈ wsX7_firstOf := by decide +kernel
  have lk5 : Cond.initialized RX10 ∈ wsX7_firstOf := by decide +kernel
  have lk6 : Cond.static yX10_rest ∈ wsX7_firstOf := by decide +kernel
  have K0 : gG p l e ({ frames := 2, cells := 0, slots := 0, locals := 42 } : Room) s m args below meth c D (cyT cy) B 3 (eI D (cyT cy) (cW cy A aK X9) B below args s r σ') (cW cy A aK X9 σ) 0 0 0 [(0, .ref (A a0)), (1, .int a1), (2, .ref (A 14))] [] := by
    refine g_sSwK X lk0 dX7_firstOf_0 ?_
    refine g_aload_n X dX7_firstOf_3 rfl 0 rfl ?_
    refine g_get X (AD := A) (h0).mem (cE_run cy A aK σ h0) hin7 rfl 0 (by decide) lk1 (fun _ h9 => h9) rfl dX7_firstOf_4 ?_
    obtain ⟨hg_1, h⟩ := grd_some h
    refine g_ordK X (ZC_ok _ _ _ _ _) (Nat.lt_of_not_le hg_1) gX7_firstOf_Jx29ce0_ordinal_8abf5_u24X3 ⟨Nat.le_of_ble_eq_true rfl, Nat.le_of_ble_eq_true rfl⟩ (Nat.le_of_ble_eq_true rfl) ⟨Nat.zero_le _, Nat.zero_le _⟩ dX7_firstOf_7 ?_
    obtain ⟨hg_2, h⟩ := grd_some h
    refine g_swK X hg_2 dX7_firstOf_10 ?_
    by_cases hc_3 : (zSwK.getD (kOrd (gp σ (8 * a0))).toNatClampNeg 0) = 1
    · have h := ift hc_3 h
      refine g_tabIn X (offq := 33) (tgt := 44) dX7_firstOf_11 (by rw [hc_3]; decide) (by rw [hc_3]; decide) (by rw [hc_3]; rfl) (by decide) ?_
      refine g_aload_n X dX7_firstOf_44 rfl 0 rfl ?_
      refine g_get X (AD := A) (h0).mem (cE_run cy A aK σ h0) hin7 rfl 2 (by decide) lk2 (fun _ h9 => h9) rfl dX7_firstOf_45 ?_
      refine g_iload_n X dX7_firstOf_48 rfl 1 rfl ?_
      refine g_aload_n X dX7_firstOf_49 rfl 0 rfl ?_
      refine g_get X (AD := A) (h0).mem (cE_run cy A aK σ h0) hin7 rfl 3 (by decide) lk3 (fun _ h9 => h9) rfl dX7_firstOf_50 ?_
      refine g_imul X dX7_firstOf_53 ?_
      refine g_iadd X dX7_firstOf_54 ?_
      cases h
      exact g_iret (Wf := cW cy A aK X9) X ⟨rfl, rfl⟩ dX7_firstOf_55
    have h := iff_ hc_3 h
    by_cases hc_4 : (zSwK.getD (kOrd (gp σ (8 * a0))).toNatClampNeg 0) = 2
    · have h := ift hc_4 h
      refine g_tabIn X (offq := 45) (tgt := 56) dX7_firstOf_11 (by rw [hc_4]; decide) (by rw [hc_4]; decide) (by rw [hc_4]; rfl) (by decide) ?_
      refine g_aload_n X dX7_firstOf_56 rfl 0 rfl ?_
      refine g_get X (AD := A) (h0).mem (cE_run cy A aK σ h0) hin7 rfl 2 (by decide) lk2 (fun _ h9 => h9) rfl dX7_firstOf_57 ?_
      refine g_iload_n X dX7_firstOf_60 rfl 1 rfl ?_
      refine g_aload_n X dX7_firstOf_61 rfl 0 rfl ?_
      refine g_get X (AD := A) (h0).mem (cE_run cy A aK σ h0) hin7 rfl 3 (by decide) lk3 (fun _ h9 => h9) rfl dX7_firstOf_62 ?_
      refine g_imul X dX7_firstOf_65 ?_
      refine g_isub X dX7_firstOf_66 ?_
      cases h
      exact g_iret (Wf := cW cy A aK X9) X ⟨rfl, rfl⟩ dX7_firstOf_67
    have h := iff_ hc_4 h
    by_cases hc_9 : (zSwK.getD (kOrd (gp σ (8 * a0))).toNatClampNeg 0) = 3
    · have h := ift hc_9 h
      refine g_tabIn X (offq := 57) (tgt := 68) dX7_firstOf_11 (by rw [hc_9]; decide) (by rw [hc_9]; decide) (by rw [hc_9]; rfl) (by decide) ?_
      refine g_iload_n X dX7_firstOf_68 rfl 1 rfl ?_
      refine g_iconst X dX7_firstOf_69 (v := (2 : Int32)) (by decide) ?_
      refine g_irem X dX7_firstOf_70 (by decide) ?_
      obtain ⟨v_6, hj_8, h⟩ := bnd_some h
      have K_7 : gG p l e ({ frames := 2, cells := 0, slots := 0, locals := 42 } : Room) s m args below meth c D (cyT cy) B 3 (eI D (cyT cy) (cW cy A aK X9) B below args s r σ') (cW cy A aK X9 σ) 0 0 90 [] [.int v_6] := by
        cases h
        exact g_iret (Wf := cW cy A aK X9) X ⟨rfl, rfl⟩ dX7_firstOf_90
      have h := hj_8
      clear hj_8
      refine g_if_ne X (tgt := 81) dX7_firstOf_71 (by decide) (fun hc_5 => ?_) (fun hc_5 => ?_)
      · have h := iff_ hc_5 h
        refine g_aload_n X dX7_firstOf_81 rfl 0 rfl ?_
        refine g_get X (AD := A) (h0).mem (cE_run cy A aK σ h0) hin7 rfl 2 (by decide) lk2 (fun _ h9 => h9) rfl dX7_firstOf_82 ?_
        refine g_aload_n X dX7_firstOf_85 rfl 0 rfl ?_
        refine g_get X (AD := A) (h0).mem (cE_run cy A aK σ h0) hin7 rfl 3 (by decide) lk3 (fun _ h9 => h9) rfl dX7_firstOf_86 ?_
        refine g_iadd X dX7_firstOf_89 ?_
        cases h
        exact g_sub [] rfl K_7
      · have h := ift hc_5 h
        refine g_aload_n X dX7_firstOf_74 rfl 0 rfl ?_
        refine g_get X (AD := A) (h0).mem (cE_run cy A aK σ h0) hin7 rfl 2 (by decide) lk2 (fun _ h9 => h9) rfl dX7_firstOf_75 ?_
        refine g_goto X (tgt := 90) dX7_firstOf_78 (by decide) ?_
        cases h
        exact g_sub [] rfl K_7
    have h := iff_ hc_9 h
    by_cases hc_12 : (zSwK.getD (kOrd (gp σ (8 * a0))).toNatClampNeg 0) = 4
    · have h := ift hc_12 h
      refine g_tabIn X (offq := 80) (tgt := 91) dX7_firstOf_11 (by rw [hc_12]; decide) (by rw [hc_12]; decide) (by rw [hc_12]; rfl) (by decide) ?_
      refine g_aload_n X dX7_firstOf_91 rfl 0 rfl ?_
      refine g_get X (AD := A) (h0).mem (cE_run cy A aK σ h0) hin7 rfl 2 (by decide) lk2 (fun _ h9 => h9) rfl dX7_firstOf_92 ?_
      refine g_aload_n X dX7_firstOf_95 rfl 0 rfl ?_
      refine g_get X (AD := A) (h0).mem (cE_run cy A aK σ h0) hin7 rfl 3 (by decide) lk3 (fun _ h9 => h9) rfl dX7_firstOf_96 ?_
      refine g_iload_n X dX7_firstOf_99 rfl 1 rfl ?_
      refine g_aload_n X dX7_firstOf_100 rfl 0 rfl ?_
      refine g_get X (AD := A) (h0).mem (cE_run cy A aK σ h0) hin7 rfl 4 (by decide) lk4 (fun _ h9 => h9) rfl dX7_firstOf_101 ?_
      obtain ⟨r_11, hf_10, h⟩ := bnd_some h
      refine g_callNI (AD := A) (As := [.int a1, .int (gi σ (8 * a0 + 4))]) X (ZC_ok _ _ _ _ _) (m_X10_rest hf_10) ⟨va_cnB 2 X.1.2.2.2.2 gX7_firstOf_X10_rest_n38 rfl rfl rfl (X.2.2.2.1.1.2.2.2.2.2.2 (RX7, 38, yX10_rest) (by simp [zN])) (X.1.2.2.2.2 _ lk5) (by decide +kernel) ⟨Nat.le_of_ble_eq_true rfl, Nat.le_of_ble_eq_true rfl⟩, X.1.2.2.2.2 _ lk6, trivial⟩ rfl rfl (Nat.le_of_ble_eq_true rfl) ⟨Nat.zero_le _, Nat.zero_le _⟩ dX7_firstOf_104 ?_
      refine g_imul X dX7_firstOf_107 ?_
      refine g_iadd X dX7_firstOf_108 ?_
      cases h
      exact g_iret (Wf := cW cy A aK X9) X ⟨rfl, rfl⟩ dX7_firstOf_109
    have h := iff_ hc_12 h
    by_cases hc_16 : (zSwK.getD (kOrd (gp σ (8 * a0))).toNatClampNeg 0) = 5
    · have h := ift hc_16 h
      refine g_tabIn X (offq := 99) (tgt := 110) dX7_firstOf_11 (by rw [hc_16]; decide) (by rw [hc_16]; decide) (by rw [hc_16]; rfl) (by decide) ?_
      refine g_aload_n X dX7_firstOf_110 rfl 0 rfl ?_
      refine g_get X (AD := A) (h0).mem (cE_run cy A aK σ h0) hin7 rfl 2 (by decide) lk2 (fun _ h9 => h9) rfl dX7_firstOf_111 ?_
      refine g_aload_n X dX7_firstOf_114 rfl 2 rfl ?_
      refine g_aload_n X dX7_firstOf_115 rfl 0 rfl ?_
      refine g_get X (AD := A) (h0).mem (cE_run cy A aK σ h0) hin7 rfl 3 (by decide) lk3 (fun _ h9 => h9) rfl dX7_firstOf_116 ?_
      refine g_iconst X dX7_firstOf_119 (v := (1 : Int32)) (by decide) ?_
      refine g_iadd X dX7_firstOf_120 ?_
      obtain ⟨r_14, σ_15, hf_13, h⟩ := bnd2_some h
      refine g_callVI (AD := A) (As := [.int ((gi σ (8 * a0 + 3)) + (1 : Int32))]) X (ZC_ok _ _ _ _ _) (m_X2_draw hf_13) (cwV 1 X.1.2.2.2.2 gX7_firstOf_X2_draw rfl rfl rfl (by decide +kernel) ⟨Nat.le_of_ble_eq_true rfl, Nat.le_of_ble_eq_true rfl⟩) rfl cm14 (cE_14 cy A aK σ) rfl rfl (Nat.le_of_ble_eq_true rfl) ⟨Nat.zero_le _, Nat.zero_le _⟩ dX7_firstOf_121 ?_
      refine g_iadd X dX7_firstOf_124 ?_
      cases h
      exact g_iret (Wf := cW cy A aK X9) X ⟨rfl, rfl⟩ dX7_firstOf_125
    have h := iff_ hc_16 h
    have hn_17 : (zSwK.getD (kOrd (gp σ (8 * a0))).toNatClampNeg 0).toInt ≠ 1 := i32ne hc_3
    have hn_18 : (zSwK.getD (kOrd (gp σ (8 * a0))).toNatClampNeg 0).toInt ≠ 2 := i32ne hc_4
    have hn_19 : (zSwK.getD (kOrd (gp σ (8 * a0))).toNatClampNeg 0).toInt ≠ 3 := i32ne hc_9
    have hn_20 : (zSwK.getD (kOrd (gp σ (8 * a0))).toNatClampNeg 0).toInt ≠ 4 := i32ne hc_12
    have hn_21 : (zSwK.getD (kOrd (gp σ (8 * a0))).toNatClampNeg 0).toInt ≠ 5 := i32ne hc_16
    refine g_tabOut X (tgt := 126) dX7_firstOf_11 (by omega) (by decide) ?_
    refine g_aload_n X dX7_firstOf_126 rfl 0 rfl ?_
    refine g_get X (AD := A) (h0).mem (cE_run cy A aK σ h0) hin7 rfl 2 (by decide) lk2 (fun _ h9 => h9) rfl dX7_firstOf_127 ?_
    cases h
    exact g_iret (Wf := cW cy A aK X9) X ⟨rfl, rfl⟩ dX7_firstOf_130
  exact K0
set_option maxHeartbeats 8000000 in
set_option maxRecDepth 100000 in
theorem m_X7_secondOf {σ : St} {a0 : Nat} {a1 : Int32} {r : Int32} (h0 : isRun a0) (h : f_X7_secondOf a0 a1 σ = some r) : mI (ZC aK aO aS aV aT) D (cyT cy) l yX7_secondOf wsX7_secondOf ({ frames := 1, cells := 0, slots := 0, locals := 21 } : Room) (cW cy A aK X9) [.ref (A a0), .int a1] σ r σ := by
  unfold f_X7_secondOf at h
  refine mI_of (cc := cX7_secondOf) (maxL := 2) (ret := (some .int)) (by decide) rfl (Nat.le_of_ble_eq_true rfl) (fun p e s m args below meth c B X => ?_)
  have hin7 : ∀ w ∈ wsX70, w ∈ wsX7_secondOf := by decide +kernel
  have lk0 : Cond.fieldLink RX7 50 "Cardcabinet$Run" "divisor" "I" ∈ wsX7_secondOf := by decide +kernel
  have lk1 : Cond.initialized RX10 ∈ wsX7_secondOf := by decide +kernel
  have lk2 : Cond.static yX10_rest ∈ wsX7_secondOf := by decide +kernel
  have K0 : gG p l e ({ frames := 1, cells := 0, slots := 0, locals := 21 } : Room) s m args below meth c D (cyT cy) B 2 (eI D (cyT cy) (cW cy A aK X9) B below args s r σ) (cW cy A aK X9 σ) 0 0 0 [(0, .ref (A a0)), (1, .int a1)] [] := by
    refine g_iload_n X dX7_secondOf_0 rfl 1 rfl ?_
    refine g_aload_n X dX7_secondOf_1 rfl 0 rfl ?_
    refine g_get X (AD := A) (h0).mem (cE_run cy A aK σ h0) hin7 rfl 5 (by decide) lk0 (fun _ h9 => h9) rfl dX7_secondOf_2 ?_
    obtain ⟨r_2, hf_1, h⟩ := bnd_some h
    refine g_callNI (AD := A) (As := [.int a1, .int (gi σ (8 * a0 + 5))]) X (ZC_ok _ _ _ _ _) (m_X10_rest hf_1) ⟨va_cnB 2 X.1.2.2.2.2 gX7_secondOf_X10_rest_n38 rfl rfl rfl (X.2.2.2.1.1.2.2.2.2.2.2 (RX7, 38, yX10_rest) (by simp [zN])) (X.1.2.2.2.2 _ lk1) (by decide +kernel) ⟨Nat.le_of_ble_eq_true rfl, Nat.le_of_ble_eq_true rfl⟩, X.1.2.2.2.2 _ lk2, trivial⟩ rfl rfl (Nat.le_of_ble_eq_true rfl) ⟨Nat.zero_le _, Nat.zero_le _⟩ dX7_secondOf_5 ?_
    cases h
    exact g_iret (Wf := cW cy A aK X9) X ⟨rfl, rfl⟩ dX7_secondOf_8
  exact K0
set_option maxHeartbeats 8000000 in
set_option maxRecDepth 100000 in
theorem m_X8_clear {σ : St} {σ' : St} (h : f_X8_clear σ = some σ') : mV (ZC aK aO aS aV aT) D (cyT cy) l yX8_clear wsX8_clear ({ frames := 0, cells := 0, slots := 0, locals := 0 } : Room) (cW cy A aK X9) [.ref (A 7)] σ σ' := by
  unfold f_X8_clear at h
  refine mV_of (cc := cX8_clear) (maxL := 1) (ret := none) (by decide) rfl (Nat.le_of_ble_eq_true rfl) (fun p e s m args below meth c B X => ?_)
  have hin8 : ∀ w ∈ wsX80, w ∈ wsX8_clear := by decide +kernel
  have lk0 : Cond.fieldLink RX8 22 "Cardcabinet$Sorter" "size" "I" ∈ wsX8_clear := by decide +kernel
  have K0 : gG p l e ({ frames := 0, cells := 0, slots := 0, locals := 0 } : Room) s m args below meth c D (cyT cy) B 1 (eV D (cyT cy) (cW cy A aK X9) B below args s σ') (cW cy A aK X9 σ) 0 0 0 [(0, .ref (A 7))] [] := by
    refine g_aload_n X dX8_clear_0 rfl 0 rfl ?_
    refine g_iconst X dX8_clear_1 (v := (0 : Int32)) (by decide) ?_
    refine g_put X (AD := A) (ty := .int) (v := .int (0 : Int32)) (σ' := si σ 59 (0 : Int32)) cm7 (cE_7 cy A aK σ) hin8 rfl tyX8 tyX8_ok nmX8 3 (by decide) lk0 (fun _ h9 => h9) rfl (by decide +kernel) rfl rfl (Nat.le_of_ble_eq_true rfl) (sf_c59 cy A aK σ (0 : Int32)) dX8_clear_2 ?_
    cases h
    exact g_vret (Wf := cW cy A aK X9) X rfl dX8_clear_5
  exact K0
set_option maxHeartbeats 8000000 in
set_option maxRecDepth 100000 in
theorem m_X8_take {σ : St} {a1 : Nat} {a2 : Int32} {a3 : Int32} {σ' : St} (h1 : isRow a1) (h : f_X8_take a1 a2 a3 σ = some σ') : mV (ZC aK aO aS aV aT) D (cyT cy) l yX8_take wsX8_take ({ frames := 0, cells := 0, slots := 0, locals := 0 } : Room) (cW cy A aK X9) [.ref (A 7), .ref (A a1), .int a2, .int a3] σ σ' := by
  unfold f_X8_take at h
  refine mV_of (cc := cX8_take) (maxL := 5) (ret := none) (by decide) rfl (Nat.le_of_ble_eq_true rfl) (fun p e s m args below meth c B X => ?_)
  have hin6 : ∀ w ∈ wsX60, w ∈ wsX8_take := by decide +kernel
  have hin8 : ∀ w ∈ wsX80, w ∈ wsX8_take := by decide +kernel
  have lk0 : Cond.fieldLink RX8 22 "Cardcabinet$Sorter" "size" "I" ∈ wsX8_take := by decide +kernel
  have lk1 : Cond.fieldLink RX8 9 "Cardcabinet$Sorter" "marks" "[I" ∈ wsX8_take := by decide +kernel
  have lk2 : Cond.fieldLink RX8 26 "Cardcabinet$Row" "marks" "[I" ∈ wsX8_take := by decide +kernel
  have K0 : gG p l e ({ frames := 0, cells := 0, slots := 0, locals := 0 } : Room) s m args below meth c D (cyT cy) B 5 (eV D (cyT cy) (cW cy A aK X9) B below args s σ') (cW cy A aK X9 σ) 0 0 0 [(0, .ref (A 7)), (1, .ref (A a1)), (2, .int a2), (3, .int a3)] [] := by
    refine g_iload_n X dX8_take_0 rfl 2 rfl ?_
    refine g_istore X dX8_take_1 (by decide) (lv' := [(4, .int a2), (0, .ref (A 7)), (1, .ref (A a1)), (2, .int a2), (3, .int a3)]) rfl ?_
    have L_10 : ∀ (c_1 : Nat) (hp_2 : isRow c_1) (c_3 : Int32) (n_6 : Nat) (v_4 : Int32) (σ_5 : St) (σ_11 : St), f_X8_take_L3 c_1 c_3 n_6 v_4 σ_5 = some (σ_11) → gG p l e ({ frames := 0, cells := 0, slots := 0, locals := 0 } : Room) s m args below meth c D (cyT cy) B 5 (eV D (cyT cy) (cW cy A aK X9) B below args s σ') (cW cy A aK X9 σ_11) 0 0 53 [] [] → gG p l e ({ frames := 0, cells := 0, slots := 0, locals := 0 } : Room) s m args below meth c D (cyT cy) B 5 (eV D (cyT cy) (cW cy A aK X9) B below args s σ') (cW cy A aK X9 σ_5) 0 0 3 [(0, .ref (A 7)), (1, .ref (A c_1)), (3, .int c_3), (4, .int v_4)] [] := by
      intro c_1 hp_2 c_3 n_6
      induction n_6 with
      | zero =>
        intro v_4 σ_5 σ_11 h K_8
        rw [f_X8_take_L3] at h
        cases h
      | succ n_6 ih_7 =>
        intro v_4 σ_5 σ_11 h K_8
        rw [f_X8_take_L3] at h
        refine g_iload X dX8_take_3 3 rfl ?_
        refine g_iload_n X dX8_take_5 rfl 2 rfl ?_
        refine g_icmp_ge X (tgt := 53) dX8_take_6 (by decide) (fun hc_12 => ?_) (fun hc_12 => ?_)
        · have h := ift hc_12 h
          cases h
          exact g_sub [] rfl K_8
        · have h := iff_ hc_12 h
          refine g_aload_n X dX8_take_9 rfl 0 rfl ?_
          refine g_get X (AD := A) cm7 (cE_7 cy A aK σ_5) hin8 rfl 3 (by decide) lk0 (fun _ h9 => h9) rfl dX8_take_10 ?_
          refine g_aload_n X dX8_take_13 rfl 0 rfl ?_
          refine g_get X (AD := A) cm7 (cE_7 cy A aK σ_5) hin8 rfl 1 (by decide) lk1 (fun _ h9 => h9) rfl dX8_take_14 ?_
          obtain ⟨hg_13, h⟩ := grd_some h
          refine g_alen X (AD := A) (isSm.mem hg_13) (cE_sm cy A aK σ_5 hg_13) 0 rfl (v := 3200) rfl dX8_take_17 ?_
          refine g_icmp_ge X (tgt := 53) dX8_take_18 (by decide) (fun hc_14 => ?_) (fun hc_14 => ?_)
          · have h := ift hc_14 h
            cases h
            exact g_sub [] rfl K_8
          · have h := iff_ hc_14 h
            refine g_aload_n X dX8_take_21 rfl 0 rfl ?_
            refine g_get X (AD := A) cm7 (cE_7 cy A aK σ_5) hin8 rfl 1 (by decide) lk1 (fun _ h9 => h9) rfl dX8_take_22 ?_
            obtain ⟨hg_15, h⟩ := grd_some h
            refine g_aload_n X dX8_take_25 rfl 0 rfl ?_
            refine g_get X (AD := A) cm7 (cE_7 cy A aK σ_5) hin8 rfl 3 (by decide) lk0 (fun _ h9 => h9) rfl dX8_take_26 ?_
            refine g_aload_n X dX8_take_29 rfl 1 rfl ?_
            refine g_get X (AD := A) (hp_2).mem (cE_row cy A aK σ_5 hp_2) hin6 rfl 0 (by decide) lk2 (fun _ h9 => h9) rfl dX8_take_30 ?_
            refine g_iload X dX8_take_33 3 rfl ?_
            obtain ⟨hg_16, h⟩ := grd_some h
            refine g_iald X (AD := A) ((isRow.mk hp_2)).mem (cE_mk cy A aK σ_5 (isRow.mk hp_2)) 0 rfl hg_16 dX8_take_35 ?_
            obtain ⟨hg_17, h⟩ := grd_some h
            refine g_iast X (AD := A) (σ' := sr σ_5 (gp σ_5 57) (upd (gr σ_5 (gp σ_5 57)) (gi σ_5 59).toNatClampNeg (gr σ_5 (c_1 + 16) v_4.toNatClampNeg))) (isSm.mem hg_15) (cE_sm cy A aK σ_5 hg_15) 0 rfl hg_17 (st_sm cy A aK σ_5 (upd (gr σ_5 (gp σ_5 57)) (gi σ_5 59).toNatClampNeg (gr σ_5 (c_1 + 16) v_4.toNatClampNeg)) hg_15) dX8_take_36 ?_
            obtain ⟨σ_18, e_19, h⟩ := bnd_some h
            have e_19 := Option.some.inj e_19
            rw [e_19]
            refine g_aload_n X dX8_take_37 rfl 0 rfl ?_
            refine g_dup X dX8_take_38 rfl ?_
            refine g_get X (AD := A) cm7 (cE_7 cy A aK σ_18) hin8 rfl 3 (by decide) lk0 (fun _ h9 => h9) rfl dX8_take_39 ?_
            refine g_iconst X dX8_take_42 (v := (1 : Int32)) (by decide) ?_
            refine g_iadd X dX8_take_43 ?_
            refine g_put X (AD := A) (ty := .int) (v := .int ((gi σ_18 59) + (1 : Int32))) (σ' := si σ_18 59 ((gi σ_18 59) + (1 : Int32))) cm7 (cE_7 cy A aK σ_18) hin8 rfl tyX8 tyX8_ok nmX8 3 (by decide) lk0 (fun _ h9 => h9) rfl (by decide +kernel) rfl rfl (Nat.le_of_ble_eq_true rfl) (sf_c59 cy A aK σ_18 ((gi σ_18 59) + (1 : Int32))) dX8_take_44 ?_
            refine g_iinc X dX8_take_47 3 rfl (v := v_4 + (1 : Int32)) rfl (by decide) (lv' := [(4, .int (v_4 + (1 : Int32))), (0, .ref (A 7)), (1, .ref (A c_1)), (3, .int c_3)]) rfl ?_
            refine g_goto X (tgt := 3) dX8_take_50 (by decide) ?_
            exact g_sub [1, 2, 3, 0] rfl (ih_7 _ _ _ h K_8)
    obtain ⟨σ_11, hl_20, h⟩ := bnd_some h
    refine g_sub [1, 2, 4, 0] rfl (L_10 a1 h1 a3 FU a2 σ σ_11 hl_20 ?_)
    cases h
    exact g_vret (Wf := cW cy A aK X9) X rfl dX8_take_53
  exact K0
set_option maxHeartbeats 8000000 in
set_option maxRecDepth 100000 in
theorem m_X8_layBack {σ : St} {a1 : Int32} {a2 : Nat} {a3 : Int32} {a4 : Int32} {r : Int32} {σ' : St} (h2 : isRow a2) (h : f_X8_layBack a1 a2 a3 a4 σ = some (r, σ')) : mI (ZC aK aO aS aV aT) D (cyT cy) l yX8_layBack wsX8_layBack ({ frames := 0, cells := 0, slots := 0, locals := 0 } : Room) (cW cy A aK X9) [.ref (A 7), .int a1, .ref (A a2), .int a3, .int a4] σ r σ' := by
  unfold f_X8_layBack at h
  refine mI_of (cc := cX8_layBack) (maxL := 8) (ret := (some .int)) (by decide) rfl (Nat.le_of_ble_eq_true rfl) (fun p e s m args below meth c B X => ?_)
  have hin6 : ∀ w ∈ wsX60, w ∈ wsX8_layBack := by decide +kernel
  have hin8 : ∀ w ∈ wsX80, w ∈ wsX8_layBack := by decide +kernel
  have lk0 : Cond.fieldLink RX8 22 "Cardcabinet$Sorter" "size" "I" ∈ wsX8_layBack := by decide +kernel
  have lk1 : Cond.fieldLink RX8 26 "Cardcabinet$Row" "marks" "[I" ∈ wsX8_layBack := by decide +kernel
  have lk2 : Cond.fieldLink RX8 9 "Cardcabinet$Sorter" "marks" "[I" ∈ wsX8_layBack := by decide +kernel
  have K0 : gG p l e ({ frames := 0, cells := 0, slots := 0, locals := 0 } : Room) s m args below meth c D (cyT cy) B 8 (eI D (cyT cy) (cW cy A aK X9) B below args s r σ') (cW cy A aK X9 σ) 0 0 0 [(0, .ref (A 7)), (1, .int a1), (2, .ref (A a2)), (3, .int a3), (4, .int a4)] [] := by
    refine g_iconst X dX8_layBack_0 (v := (0 : Int32)) (by decide) ?_
    refine g_istore X dX8_layBack_1 (by decide) (lv' := [(5, .int (0 : Int32)), (0, .ref (A 7)), (1, .int a1), (2, .ref (A a2)), (3, .int a3), (4, .int a4)]) rfl ?_
    refine g_iload_n X dX8_layBack_3 rfl 2 rfl ?_
    refine g_istore X dX8_layBack_4 (by decide) (lv' := [(6, .int a1), (5, .int (0 : Int32)), (0, .ref (A 7)), (1, .int a1), (2, .ref (A a2)), (3, .int a3), (4, .int a4)]) rfl ?_
    refine g_iload_n X dX8_layBack_6 rfl 5 rfl ?_
    refine g_istore X dX8_layBack_7 (by decide) (lv' := [(7, .int a3), (6, .int a1), (5, .int (0 : Int32)), (0, .ref (A 7)), (1, .int a1), (2, .ref (A a2)), (3, .int a3), (4, .int a4)]) rfl ?_
    have L_12 : ∀ (c_1 : Nat) (hp_2 : isRow c_1) (c_3 : Int32) (n_8 : Nat) (v_4 : Int32) (v_5 : Int32) (v_6 : Int32) (σ_7 : St) (o_14 : Int32) (σ_13 : St), f_X8_layBack_L9 c_1 c_3 n_8 v_4 v_5 v_6 σ_7 = some (o_14, σ_13) → gG p l e ({ frames := 0, cells := 0, slots := 0, locals := 0 } : Room) s m args below meth c D (cyT cy) B 8 (eI D (cyT cy) (cW cy A aK X9) B below args s r σ') (cW cy A aK X9 σ_13) 0 0 68 [(5, .int o_14)] [] → gG p l e ({ frames := 0, cells := 0, slots := 0, locals := 0 } : Room) s m args below meth c D (cyT cy) B 8 (eI D (cyT cy) (cW cy A aK X9) B below args s r σ') (cW cy A aK X9 σ_7) 0 0 9 [(0, .ref (A 7)), (2, .ref (A c_1)), (4, .int c_3), (5, .int v_4), (6, .int v_5), (7, .int v_6)] [] := by
      intro c_1 hp_2 c_3 n_8
      induction n_8 with
      | zero =>
        intro v_4 v_5 v_6 σ_7 o_14 σ_13 h K_10
        rw [f_X8_layBack_L9] at h
        cases h
      | succ n_8 ih_9 =>
        intro v_4 v_5 v_6 σ_7 o_14 σ_13 h K_10
        rw [f_X8_layBack_L9] at h
        refine g_iload X dX8_layBack_9 5 rfl ?_
        refine g_iload X dX8_layBack_11 2 rfl ?_
        refine g_icmp_ge X (tgt := 68) dX8_layBack_13 (by decide) (fun hc_15 => ?_) (fun hc_15 => ?_)
        · have h := ift hc_15 h
          cases h
          exact g_sub [3] rfl K_10
        · have h := iff_ hc_15 h
          refine g_iload X dX8_layBack_16 4 rfl ?_
          refine g_aload_n X dX8_layBack_18 rfl 0 rfl ?_
          refine g_get X (AD := A) cm7 (cE_7 cy A aK σ_7) hin8 rfl 3 (by decide) lk0 (fun _ h9 => h9) rfl dX8_layBack_19 ?_
          refine g_icmp_ge X (tgt := 68) dX8_layBack_22 (by decide) (fun hc_16 => ?_) (fun hc_16 => ?_)
          · have h := ift hc_16 h
            cases h
            exact g_sub [3] rfl K_10
          · have h := iff_ hc_16 h
            refine g_aload_n X dX8_layBack_25 rfl 1 rfl ?_
            refine g_get X (AD := A) (hp_2).mem (cE_row cy A aK σ_7 hp_2) hin6 rfl 0 (by decide) lk1 (fun _ h9 => h9) rfl dX8_layBack_26 ?_
            refine g_iload X dX8_layBack_29 5 rfl ?_
            obtain ⟨hg_17, h⟩ := grd_some h
            refine g_iald X (AD := A) ((isRow.mk hp_2)).mem (cE_mk cy A aK σ_7 (isRow.mk hp_2)) 0 rfl hg_17 dX8_layBack_31 ?_
            refine g_aload_n X dX8_layBack_32 rfl 0 rfl ?_
            refine g_get X (AD := A) cm7 (cE_7 cy A aK σ_7) hin8 rfl 1 (by decide) lk2 (fun _ h9 => h9) rfl dX8_layBack_33 ?_
            obtain ⟨hg_18, h⟩ := grd_some h
            refine g_iload X dX8_layBack_36 4 rfl ?_
            obtain ⟨hg_19, h⟩ := grd_some h
            refine g_iald X (AD := A) (isSm.mem hg_18) (cE_sm cy A aK σ_7 hg_18) 0 rfl hg_19 dX8_layBack_38 ?_
            obtain ⟨v_21, σ_22, hj_29, h⟩ := bnd2_some h
            have K_23 : gG p l e ({ frames := 0, cells := 0, slots := 0, locals := 0 } : Room) s m args below meth c D (cyT cy) B 8 (eI D (cyT cy) (cW cy A aK X9) B below args s r σ') (cW cy A aK X9 σ_22) 0 0 59 [(0, .ref (A 7)), (2, .ref (A c_1)), (4, .int c_3), (5, .int v_21), (6, .int v_5), (7, .int v_6)] [] := by
              refine g_iinc X dX8_layBack_59 4 rfl (v := v_5 + (1 : Int32)) rfl (by decide) (lv' := [(6, .int (v_5 + (1 : Int32))), (0, .ref (A 7)), (2, .ref (A c_1)), (4, .int c_3), (5, .int v_21), (7, .int v_6)]) rfl ?_
              refine g_iinc X dX8_layBack_62 5 rfl (v := v_6 + (1 : Int32)) rfl (by decide) (lv' := [(7, .int (v_6 + (1 : Int32))), (6, .int (v_5 + (1 : Int32))), (0, .ref (A 7)), (2, .ref (A c_1)), (4, .int c_3), (5, .int v_21)]) rfl ?_
              refine g_goto X (tgt := 9) dX8_layBack_65 (by decide) ?_
              exact g_sub [2, 3, 4, 5, 1, 0] rfl (ih_9 _ _ _ _ _ _ h K_10)
            have h := hj_29
            clear hj_29
            refine g_icmp_eq X (tgt := 59) dX8_layBack_39 (by decide) (fun hc_20 => ?_) (fun hc_20 => ?_)
            · have h := ift hc_20 h
              cases h
              exact g_sub [0, 1, 2, 3, 4, 5] rfl K_23
            · have h := iff_ hc_20 h
              refine g_iinc X dX8_layBack_42 3 rfl (v := v_4 + (1 : Int32)) rfl (by decide) (lv' := [(5, .int (v_4 + (1 : Int32))), (0, .ref (A 7)), (2, .ref (A c_1)), (4, .int c_3), (6, .int v_5), (7, .int v_6)]) rfl ?_
              refine g_aload_n X dX8_layBack_45 rfl 2 rfl ?_
              refine g_get X (AD := A) (hp_2).mem (cE_row cy A aK σ_7 hp_2) hin6 rfl 0 (by decide) lk1 (fun _ h9 => h9) rfl dX8_layBack_46 ?_
              refine g_iload X dX8_layBack_49 5 rfl ?_
              refine g_aload_n X dX8_layBack_51 rfl 1 rfl ?_
              refine g_get X (AD := A) cm7 (cE_7 cy A aK σ_7) hin8 rfl 1 (by decide) lk2 (fun _ h9 => h9) rfl dX8_layBack_52 ?_
              obtain ⟨hg_24, h⟩ := grd_some h
              refine g_iload X dX8_layBack_55 4 rfl ?_
              obtain ⟨hg_25, h⟩ := grd_some h
              refine g_iald X (AD := A) (isSm.mem hg_24) (cE_sm cy A aK σ_7 hg_24) 0 rfl hg_25 dX8_layBack_57 ?_
              obtain ⟨hg_26, h⟩ := grd_some h
              refine g_iast X (AD := A) (σ' := sr σ_7 (c_1 + 16) (upd (gr σ_7 (c_1 + 16)) v_6.toNatClampNeg (gr σ_7 (gp σ_7 57) v_5.toNatClampNeg))) ((isRow.mk hp_2)).mem (cE_mk cy A aK σ_7 (isRow.mk hp_2)) 0 rfl hg_26 (st_mk cy A aK σ_7 (upd (gr σ_7 (c_1 + 16)) v_6.toNatClampNeg (gr σ_7 (gp σ_7 57) v_5.toNatClampNeg)) (isRow.mk hp_2)) dX8_layBack_58 ?_
              obtain ⟨σ_27, e_28, h⟩ := bnd_some h
              have e_28 := Option.some.inj e_28
              rw [e_28]
              cases h
              exact g_sub [1, 2, 3, 0, 4, 5] rfl K_23
    obtain ⟨o_14, σ_13, hl_30, h⟩ := bnd2_some h
    refine g_sub [3, 5, 7, 2, 1, 0] rfl (L_12 a2 h2 a4 FU (0 : Int32) a1 a3 σ o_14 σ_13 hl_30 ?_)
    refine g_iload X dX8_layBack_68 0 rfl ?_
    cases h
    exact g_iret (Wf := cW cy A aK X9) X ⟨rfl, rfl⟩ dX8_layBack_70
  exact K0
set_option maxHeartbeats 8000000 in
set_option maxRecDepth 100000 in
theorem m_X8_firstAt {σ : St} {a1 : Int32} {r : Int32} (h : f_X8_firstAt a1 σ = some r) : mI (ZC aK aO aS aV aT) D (cyT cy) l yX8_firstAt wsX8_firstAt ({ frames := 1, cells := 0, slots := 0, locals := 21 } : Room) (cW cy A aK X9) [.ref (A 7), .int a1] σ r σ := by
  unfold f_X8_firstAt at h
  refine mI_of (cc := cX8_firstAt) (maxL := 2) (ret := (some .int)) (by decide) rfl (Nat.le_of_ble_eq_true rfl) (fun p e s m args below meth c B X => ?_)
  have hin8 : ∀ w ∈ wsX80, w ∈ wsX8_firstAt := by decide +kernel
  have lk0 : Cond.fieldLink RX8 22 "Cardcabinet$Sorter" "size" "I" ∈ wsX8_firstAt := by decide +kernel
  have lk1 : Cond.fieldLink RX8 18 "Cardcabinet$Sorter" "deck" "LCardcabinet$Deck;" ∈ wsX8_firstAt := by decide +kernel
  have lk2 : Cond.fieldLink RX8 9 "Cardcabinet$Sorter" "marks" "[I" ∈ wsX8_firstAt := by decide +kernel
  have K0 : gG p l e ({ frames := 1, cells := 0, slots := 0, locals := 21 } : Room) s m args below meth c D (cyT cy) B 2 (eI D (cyT cy) (cW cy A aK X9) B below args s r σ) (cW cy A aK X9 σ) 0 0 0 [(0, .ref (A 7)), (1, .int a1)] [] := by
    refine g_iload_n X dX8_firstAt_0 rfl 1 rfl ?_
    obtain ⟨v_2, hj_9, h⟩ := bnd_some h
    have K_3 : gG p l e ({ frames := 1, cells := 0, slots := 0, locals := 21 } : Room) s m args below meth c D (cyT cy) B 2 (eI D (cyT cy) (cW cy A aK X9) B below args s r σ) (cW cy A aK X9 σ) 0 0 29 [] [.int v_2] := by
      cases h
      exact g_iret (Wf := cW cy A aK X9) X ⟨rfl, rfl⟩ dX8_firstAt_29
    have h := hj_9
    clear hj_9
    refine g_if_lt X (tgt := 28) dX8_firstAt_1 (by decide) (fun hc_1 => ?_) (fun hc_1 => ?_)
    · have h := ift hc_1 h
      refine g_iconst X dX8_firstAt_28 (v := (0 : Int32)) (by decide) ?_
      cases h
      exact g_sub [] rfl K_3
    · have h := iff_ hc_1 h
      refine g_iload_n X dX8_firstAt_4 rfl 1 rfl ?_
      refine g_aload_n X dX8_firstAt_5 rfl 0 rfl ?_
      refine g_get X (AD := A) cm7 (cE_7 cy A aK σ) hin8 rfl 3 (by decide) lk0 (fun _ h9 => h9) rfl dX8_firstAt_6 ?_
      refine g_icmp_ge X (tgt := 28) dX8_firstAt_9 (by decide) (fun hc_4 => ?_) (fun hc_4 => ?_)
      · have h := ift hc_4 h
        refine g_iconst X dX8_firstAt_28 (v := (0 : Int32)) (by decide) ?_
        cases h
        exact g_sub [] rfl K_3
      · have h := iff_ hc_4 h
        refine g_aload_n X dX8_firstAt_12 rfl 0 rfl ?_
        refine g_get X (AD := A) cm7 (cE_7 cy A aK σ) hin8 rfl 0 (by decide) lk1 (fun _ h9 => h9) rfl dX8_firstAt_13 ?_
        refine g_aload_n X dX8_firstAt_16 rfl 0 rfl ?_
        refine g_get X (AD := A) cm7 (cE_7 cy A aK σ) hin8 rfl 1 (by decide) lk2 (fun _ h9 => h9) rfl dX8_firstAt_17 ?_
        obtain ⟨hg_5, h⟩ := grd_some h
        refine g_iload_n X dX8_firstAt_20 rfl 1 rfl ?_
        obtain ⟨hg_6, h⟩ := grd_some h
        refine g_iald X (AD := A) (isSm.mem hg_5) (cE_sm cy A aK σ hg_5) 0 rfl hg_6 dX8_firstAt_21 ?_
        obtain ⟨r_8, hf_7, h⟩ := bnd_some h
        refine g_callVI (AD := A) (As := [.int (gr σ (gp σ 57) a1.toNatClampNeg)]) X (ZC_ok _ _ _ _ _) (m_X1_firstOf hf_7) (cwV 1 X.1.2.2.2.2 gX8_firstAt_X1_firstOf rfl rfl rfl (by decide +kernel) ⟨Nat.le_of_ble_eq_true rfl, Nat.le_of_ble_eq_true rfl⟩) rfl cm1 (cE_1 cy A aK σ) rfl rfl (Nat.le_of_ble_eq_true rfl) ⟨Nat.zero_le _, Nat.zero_le _⟩ dX8_firstAt_22 ?_
        refine g_goto X (tgt := 29) dX8_firstAt_25 (by decide) ?_
        cases h
        exact g_sub [] rfl K_3
  exact K0
set_option maxHeartbeats 8000000 in
set_option maxRecDepth 100000 in
theorem m_X8_isWrongPair {σ : St} {a1 : Int32} {a2 : Int32} {a3 : Nat} {r : Int32} (h3 : a3 < 4) (h : f_X8_isWrongPair a1 a2 a3 σ = some r) : mI (ZC aK aO aS aV aT) D (cyT cy) l yX8_isWrongPair wsX8_isWrongPair ({ frames := 1, cells := 0, slots := 0, locals := 40 } : Room) (cW cy A aK X9) [.ref (A 7), .int a1, .int a2, .ref (aO a3)] σ r σ := by
  unfold f_X8_isWrongPair at h
  refine mI_of (cc := cX8_isWrongPair) (maxL := 6) (ret := (some .boolean)) (by decide) rfl (Nat.le_of_ble_eq_true rfl) (fun p e s m args below meth c B X => ?_)
  have hin8 : ∀ w ∈ wsX80, w ∈ wsX8_isWrongPair := by decide +kernel
  have lk0 : Cond.fieldLink RX8 18 "Cardcabinet$Sorter" "deck" "LCardcabinet$Deck;" ∈ wsX8_isWrongPair := by decide +kernel
  have lk1 : Cond.fieldLink RX8 49 "Cardcabinet$1" "$SwitchMap$Cardcabinet$Order" "[I" ∈ wsX8_isWrongPair := by decide +kernel
  have K0 : gG p l e ({ frames := 1, cells := 0, slots := 0, locals := 40 } : Room) s m args below meth c D (cyT cy) B 6 (eI D (cyT cy) (cW cy A aK X9) B below args s r σ) (cW cy A aK X9 σ) 0 0 0 [(0, .ref (A 7)), (1, .int a1), (2, .int a2), (3, .ref (aO a3))] [] := by
    refine g_aload_n X dX8_isWrongPair_0 rfl 0 rfl ?_
    refine g_get X (AD := A) cm7 (cE_7 cy A aK σ) hin8 rfl 0 (by decide) lk0 (fun _ h9 => h9) rfl dX8_isWrongPair_1 ?_
    refine g_iload_n X dX8_isWrongPair_4 rfl 1 rfl ?_
    obtain ⟨r_2, hf_1, h⟩ := bnd_some h
    refine g_callVI (AD := A) (As := [.int a1]) X (ZC_ok _ _ _ _ _) (m_X1_firstOf hf_1) (cwV 1 X.1.2.2.2.2 gX8_isWrongPair_X1_firstOf rfl rfl rfl (by decide +kernel) ⟨Nat.le_of_ble_eq_true rfl, Nat.le_of_ble_eq_true rfl⟩) rfl cm1 (cE_1 cy A aK σ) rfl rfl (Nat.le_of_ble_eq_true rfl) ⟨Nat.zero_le _, Nat.zero_le _⟩ dX8_isWrongPair_5 ?_
    refine g_istore X dX8_isWrongPair_8 (by decide) (lv' := [(4, .int r_2), (0, .ref (A 7)), (1, .int a1), (2, .int a2), (3, .ref (aO a3))]) rfl ?_
    refine g_aload_n X dX8_isWrongPair_10 rfl 1 rfl ?_
    refine g_get X (AD := A) cm7 (cE_7 cy A aK σ) hin8 rfl 0 (by decide) lk0 (fun _ h9 => h9) rfl dX8_isWrongPair_11 ?_
    refine g_iload_n X dX8_isWrongPair_14 rfl 3 rfl ?_
    obtain ⟨r_4, hf_3, h⟩ := bnd_some h
    refine g_callVI (AD := A) (As := [.int a2]) X (ZC_ok _ _ _ _ _) (m_X1_firstOf hf_3) (cwV 1 X.1.2.2.2.2 gX8_isWrongPair_X1_firstOf rfl rfl rfl (by decide +kernel) ⟨Nat.le_of_ble_eq_true rfl, Nat.le_of_ble_eq_true rfl⟩) rfl cm1 (cE_1 cy A aK σ) rfl rfl (Nat.le_of_ble_eq_true rfl) ⟨Nat.zero_le _, Nat.zero_le _⟩ dX8_isWrongPair_15 ?_
    refine g_istore X dX8_isWrongPair_18 (by decide) (lv' := [(5, .int r_4), (4, .int r_2), (0, .ref (A 7)), (1, .int a1), (2, .int a2), (3, .ref (aO a3))]) rfl ?_
    refine g_sSwO X lk1 dX8_isWrongPair_20 ?_
    refine g_aload_n X dX8_isWrongPair_23 rfl 5 rfl ?_
    refine g_ordO X (ZC_ok _ _ _ _ _) h3 gX8_isWrongPair_Jx29ce0_ordinal_8abf5_u54X4 ⟨Nat.le_of_ble_eq_true rfl, Nat.le_of_ble_eq_true rfl⟩ (Nat.le_of_ble_eq_true rfl) ⟨Nat.zero_le _, Nat.zero_le _⟩ dX8_isWrongPair_24 ?_
    obtain ⟨hg_5, h⟩ := grd_some h
    refine g_swO X hg_5 dX8_isWrongPair_27 ?_
    by_cases hc_15 : (zSwO.getD (oOrd a3).toNatClampNeg 0) = 1
    · have h := ift hc_15 h
      refine g_tabIn X (offq := 28) (tgt := 56) dX8_isWrongPair_28 (by rw [hc_15]; decide) (by rw [hc_15]; decide) (by rw [hc_15]; rfl) (by decide) ?_
      refine g_aload_n X dX8_isWrongPair_56 rfl 2 rfl ?_
      refine g_get X (AD := A) cm7 (cE_7 cy A aK σ) hin8 rfl 0 (by decide) lk0 (fun _ h9 => h9) rfl dX8_isWrongPair_57 ?_
      refine g_iload_n X dX8_isWrongPair_60 rfl 3 rfl ?_
      obtain ⟨r_7, hf_6, h⟩ := bnd_some h
      refine g_callVI (AD := A) (As := [.int a1]) X (ZC_ok _ _ _ _ _) (m_X1_secondOf hf_6) (cwV 1 X.1.2.2.2.2 gX8_isWrongPair_X1_secondOf rfl rfl rfl (by decide +kernel) ⟨Nat.le_of_ble_eq_true rfl, Nat.le_of_ble_eq_true rfl⟩) rfl cm1 (cE_1 cy A aK σ) rfl rfl (Nat.le_of_ble_eq_true rfl) ⟨Nat.zero_le _, Nat.zero_le _⟩ dX8_isWrongPair_61 ?_
      refine g_aload_n X dX8_isWrongPair_64 rfl 2 rfl ?_
      refine g_get X (AD := A) cm7 (cE_7 cy A aK σ) hin8 rfl 0 (by decide) lk0 (fun _ h9 => h9) rfl dX8_isWrongPair_65 ?_
      refine g_iload_n X dX8_isWrongPair_68 rfl 4 rfl ?_
      obtain ⟨r_9, hf_8, h⟩ := bnd_some h
      refine g_callVI (AD := A) (As := [.int a2]) X (ZC_ok _ _ _ _ _) (m_X1_secondOf hf_8) (cwV 1 X.1.2.2.2.2 gX8_isWrongPair_X1_secondOf rfl rfl rfl (by decide +kernel) ⟨Nat.le_of_ble_eq_true rfl, Nat.le_of_ble_eq_true rfl⟩) rfl cm1 (cE_1 cy A aK σ) rfl rfl (Nat.le_of_ble_eq_true rfl) ⟨Nat.zero_le _, Nat.zero_le _⟩ dX8_isWrongPair_69 ?_
      obtain ⟨v_11, hj_14, h⟩ := bnd_some h
      have K_12 : gG p l e ({ frames := 1, cells := 0, slots := 0, locals := 40 } : Room) s m args below meth c D (cyT cy) B 6 (eI D (cyT cy) (cW cy A aK X9) B below args s r σ) (cW cy A aK X9 σ) 0 0 80 [] [.int v_11] := by
        obtain ⟨hg_13, h⟩ := grd_some h
        cases h
        exact g_zret (Wf := cW cy A aK X9) X (nar01 hg_13) ⟨rfl, rfl⟩ dX8_isWrongPair_80
      have h := hj_14
      clear hj_14
      refine g_icmp_le X (tgt := 79) dX8_isWrongPair_72 (by decide) (fun hc_10 => ?_) (fun hc_10 => ?_)
      · have h := ift hc_10 h
        refine g_iconst X dX8_isWrongPair_79 (v := (0 : Int32)) (by decide) ?_
        cases h
        exact g_sub [] rfl K_12
      · have h := iff_ hc_10 h
        refine g_iconst X dX8_isWrongPair_75 (v := (1 : Int32)) (by decide) ?_
        refine g_goto X (tgt := 80) dX8_isWrongPair_76 (by decide) ?_
        cases h
        exact g_sub [] rfl K_12
    have h := iff_ hc_15 h
    by_cases hc_27 : (zSwO.getD (oOrd a3).toNatClampNeg 0) = 2
    · have h := ift hc_27 h
      refine g_tabIn X (offq := 53) (tgt := 81) dX8_isWrongPair_28 (by rw [hc_27]; decide) (by rw [hc_27]; decide) (by rw [hc_27]; rfl) (by decide) ?_
      refine g_iload X dX8_isWrongPair_81 1 rfl ?_
      refine g_iload X dX8_isWrongPair_83 0 rfl ?_
      obtain ⟨v_17, hj_26, h⟩ := bnd_some h
      have K_18 : gG p l e ({ frames := 1, cells := 0, slots := 0, locals := 40 } : Room) s m args below meth c D (cyT cy) B 6 (eI D (cyT cy) (cW cy A aK X9) B below args s r σ) (cW cy A aK X9 σ) 0 0 119 [] [.int v_17] := by
        obtain ⟨hg_25, h⟩ := grd_some h
        cases h
        exact g_zret (Wf := cW cy A aK X9) X (nar01 hg_25) ⟨rfl, rfl⟩ dX8_isWrongPair_119
      have h := hj_26
      clear hj_26
      refine g_icmp_gt X (tgt := 114) dX8_isWrongPair_85 (by decide) (fun hc_16 => ?_) (fun hc_16 => ?_)
      · have h := ift hc_16 h
        refine g_iconst X dX8_isWrongPair_114 (v := (1 : Int32)) (by decide) ?_
        refine g_goto X (tgt := 119) dX8_isWrongPair_115 (by decide) ?_
        cases h
        exact g_sub [] rfl K_18
      · have h := iff_ hc_16 h
        refine g_iload X dX8_isWrongPair_88 1 rfl ?_
        refine g_iload X dX8_isWrongPair_90 0 rfl ?_
        refine g_icmp_ne X (tgt := 118) dX8_isWrongPair_92 (by decide) (fun hc_19 => ?_) (fun hc_19 => ?_)
        · have h := iff_ hc_19 h
          refine g_iconst X dX8_isWrongPair_118 (v := (0 : Int32)) (by decide) ?_
          cases h
          exact g_sub [] rfl K_18
        · have h := ift hc_19 h
          refine g_aload_n X dX8_isWrongPair_95 rfl 2 rfl ?_
          refine g_get X (AD := A) cm7 (cE_7 cy A aK σ) hin8 rfl 0 (by decide) lk0 (fun _ h9 => h9) rfl dX8_isWrongPair_96 ?_
          refine g_iload_n X dX8_isWrongPair_99 rfl 3 rfl ?_
          obtain ⟨r_21, hf_20, h⟩ := bnd_some h
          refine g_callVI (AD := A) (As := [.int a1]) X (ZC_ok _ _ _ _ _) (m_X1_secondOf hf_20) (cwV 1 X.1.2.2.2.2 gX8_isWrongPair_X1_secondOf rfl rfl rfl (by decide +kernel) ⟨Nat.le_of_ble_eq_true rfl, Nat.le_of_ble_eq_true rfl⟩) rfl cm1 (cE_1 cy A aK σ) rfl rfl (Nat.le_of_ble_eq_true rfl) ⟨Nat.zero_le _, Nat.zero_le _⟩ dX8_isWrongPair_100 ?_
          refine g_aload_n X dX8_isWrongPair_103 rfl 2 rfl ?_
          refine g_get X (AD := A) cm7 (cE_7 cy A aK σ) hin8 rfl 0 (by decide) lk0 (fun _ h9 => h9) rfl dX8_isWrongPair_104 ?_
          refine g_iload_n X dX8_isWrongPair_107 rfl 4 rfl ?_
          obtain ⟨r_23, hf_22, h⟩ := bnd_some h
          refine g_callVI (AD := A) (As := [.int a2]) X (ZC_ok _ _ _ _ _) (m_X1_secondOf hf_22) (cwV 1 X.1.2.2.2.2 gX8_isWrongPair_X1_secondOf rfl rfl rfl (by decide +kernel) ⟨Nat.le_of_ble_eq_true rfl, Nat.le_of_ble_eq_true rfl⟩) rfl cm1 (cE_1 cy A aK σ) rfl rfl (Nat.le_of_ble_eq_true rfl) ⟨Nat.zero_le _, Nat.zero_le _⟩ dX8_isWrongPair_108 ?_
          refine g_icmp_le X (tgt := 118) dX8_isWrongPair_111 (by decide) (fun hc_24 => ?_) (fun hc_24 => ?_)
          · have h := ift hc_24 h
            refine g_iconst X dX8_isWrongPair_118 (v := (0 : Int32)) (by decide) ?_
            cases h
            exact g_sub [] rfl K_18
          · have h := iff_ hc_24 h
            refine g_iconst X dX8_isWrongPair_114 (v := (1 : Int32)) (by decide) ?_
            refine g_goto X (tgt := 119) dX8_isWrongPair_115 (by decide) ?_
            cases h
            exact g_sub [] rfl K_18
    have h := iff_ hc_27 h
    by_cases hc_33 : (zSwO.getD (oOrd a3).toNatClampNeg 0) = 3
    · have h := ift hc_33 h
      refine g_tabIn X (offq := 92) (tgt := 120) dX8_isWrongPair_28 (by rw [hc_33]; decide) (by rw [hc_33]; decide) (by rw [hc_33]; rfl) (by decide) ?_
      refine g_iload X dX8_isWrongPair_120 1 rfl ?_
      refine g_iload X dX8_isWrongPair_122 0 rfl ?_
      obtain ⟨v_29, hj_32, h⟩ := bnd_some h
      have K_30 : gG p l e ({ frames := 1, cells := 0, slots := 0, locals := 40 } : Room) s m args below meth c D (cyT cy) B 6 (eI D (cyT cy) (cW cy A aK X9) B below args s r σ) (cW cy A aK X9 σ) 0 0 132 [] [.int v_29] := by
        obtain ⟨hg_31, h⟩ := grd_some h
        cases h
        exact g_zret (Wf := cW cy A aK X9) X (nar01 hg_31) ⟨rfl, rfl⟩ dX8_isWrongPair_132
      have h := hj_32
      clear hj_32
      refine g_icmp_ge X (tgt := 131) dX8_isWrongPair_124 (by decide) (fun hc_28 => ?_) (fun hc_28 => ?_)
      · have h := ift hc_28 h
        refine g_iconst X dX8_isWrongPair_131 (v := (0 : Int32)) (by decide) ?_
        cases h
        exact g_sub [] rfl K_30
      · have h := iff_ hc_28 h
        refine g_iconst X dX8_isWrongPair_127 (v := (1 : Int32)) (by decide) ?_
        refine g_goto X (tgt := 132) dX8_isWrongPair_128 (by decide) ?_
        cases h
        exact g_sub [] rfl K_30
    have h := iff_ hc_33 h
    have hn_39 : (zSwO.getD (oOrd a3).toNatClampNeg 0).toInt ≠ 1 := i32ne hc_15
    have hn_40 : (zSwO.getD (oOrd a3).toNatClampNeg 0).toInt ≠ 2 := i32ne hc_27
    have hn_41 : (zSwO.getD (oOrd a3).toNatClampNeg 0).toInt ≠ 3 := i32ne hc_33
    refine g_tabOut X (tgt := 133) dX8_isWrongPair_28 (by omega) (by decide) ?_
    refine g_iload X dX8_isWrongPair_133 1 rfl ?_
    refine g_iload X dX8_isWrongPair_135 0 rfl ?_
    obtain ⟨v_35, hj_38, h⟩ := bnd_some h
    have K_36 : gG p l e ({ frames := 1, cells := 0, slots := 0, locals := 40 } : Room) s m args below meth c D (cyT cy) B 6 (eI D (cyT cy) (cW cy A aK X9) B below args s r σ) (cW cy A aK X9 σ) 0 0 145 [] [.int v_35] := by
      obtain ⟨hg_37, h⟩ := grd_some h
      cases h
      exact g_zret (Wf := cW cy A aK X9) X (nar01 hg_37) ⟨rfl, rfl⟩ dX8_isWrongPair_145
    have h := hj_38
    clear hj_38
    refine g_icmp_le X (tgt := 144) dX8_isWrongPair_137 (by decide) (fun hc_34 => ?_) (fun hc_34 => ?_)
    · have h := ift hc_34 h
      refine g_iconst X dX8_isWrongPair_144 (v := (0 : Int32)) (by decide) ?_
      cases h
      exact g_sub [] rfl K_36
    · have h := iff_ hc_34 h
      refine g_iconst X dX8_isWrongPair_140 (v := (1 : Int32)) (by decide) ?_
      refine g_goto X (tgt := 145) dX8_isWrongPair_141 (by decide) ?_
      cases h
      exact g_sub [] rfl K_36
  exact K0
end MV
