section MV
variable {D : va_G} {cy : Nat → ClassId} {A aK aO aS aV aT : Nat → Nat} {l : Launch} {X9 : va_W}
set_option maxHeartbeats 8000000 in
set_option maxRecDepth 100000 in
theorem m_X11_reads {σ : St} {r : Int32} {σ' : St} (h : f_X11_reads σ = some (r, σ')) : mI (ZC aK aO aS aV aT) D (cyT cy) l yX11_reads wsX11_reads ({ frames := 6, cells := 0, slots := 0, locals := 133 } : Room) (mW cy A X9) [.ref (A 0)] σ r σ' := by
  unfold f_X11_reads at h
  refine mI_of (cc := cX11_reads) (maxL := 1) (ret := (some .int)) (by decide) rfl (Nat.le_of_ble_eq_true rfl) (fun p e s m args below meth c B X => ?_)
  have hin11 : ∀ w ∈ wsX110, w ∈ wsX11_reads := by decide +kernel
  have lk0 : Cond.fieldLink RX11 85 "CardcabinetModel" "at" "I" ∈ wsX11_reads := by decide +kernel
  have lk1 : Cond.fieldLink RX11 104 "CardcabinetModel" "wrong" "I" ∈ wsX11_reads := by decide +kernel
  have lk2 : Cond.fieldLink RX11 131 "CardcabinetModel" "runMany" "I" ∈ wsX11_reads := by decide +kernel
  have lk3 : Cond.fieldLink RX11 91 "CardcabinetModel" "token" "I" ∈ wsX11_reads := by decide +kernel
  have K0 : gG p l e ({ frames := 6, cells := 0, slots := 0, locals := 133 } : Room) s m args below meth c D (cyT cy) B 1 (eI D (cyT cy) (mW cy A X9) B below args s r σ') (mW cy A X9 σ) 0 0 0 [(0, .ref (A 0))] [] := by
    refine g_aload_n X dX11_reads_0 rfl 0 rfl ?_
    refine g_iconst X dX11_reads_1 (v := (0 : Int32)) (by decide) ?_
    refine g_put X (AD := A) (ty := .int) (v := .int (0 : Int32)) (σ' := si σ 13 (0 : Int32)) mm0 (mE_0 cy A σ) hin11 rfl tyX11 tyX11_ok nmX11 13 (by decide) lk0 (fun _ h9 => h9) rfl (by decide +kernel) rfl rfl (Nat.le_of_ble_eq_true rfl) (sm_13 cy A σ (0 : Int32)) dX11_reads_2 ?_
    refine g_aload_n X dX11_reads_5 rfl 0 rfl ?_
    refine g_iconst X dX11_reads_6 (v := (-1 : Int32)) (by decide) ?_
    refine g_put X (AD := A) (ty := .int) (v := .int (-1 : Int32)) (σ' := si (si σ 13 (0 : Int32)) 17 (-1 : Int32)) mm0 (mE_0 cy A (si σ 13 (0 : Int32))) hin11 rfl tyX11 tyX11_ok nmX11 17 (by decide) lk1 (fun _ h9 => h9) rfl (by decide +kernel) rfl rfl (Nat.le_of_ble_eq_true rfl) (sm_17 cy A (si σ 13 (0 : Int32)) (-1 : Int32)) dX11_reads_7 ?_
    obtain ⟨σ_1, e_2, h⟩ := bnd_some h
    have e_2 := Option.some.inj e_2
    rw [e_2]
    refine g_aload_n X dX11_reads_10 rfl 0 rfl ?_
    refine g_iconst X dX11_reads_11 (v := (0 : Int32)) (by decide) ?_
    refine g_put X (AD := A) (ty := .int) (v := .int (0 : Int32)) (σ' := si σ_1 24 (0 : Int32)) mm0 (mE_0 cy A σ_1) hin11 rfl tyX11 tyX11_ok nmX11 24 (by decide) lk2 (fun _ h9 => h9) rfl (by decide +kernel) rfl rfl (Nat.le_of_ble_eq_true rfl) (sm_24 cy A σ_1 (0 : Int32)) dX11_reads_12 ?_
    refine g_aload_n X dX11_reads_15 rfl 0 rfl ?_
    obtain ⟨σ_4, hf_3, h⟩ := bnd_some h
    refine g_callVV (AD := A) (As := []) X (ZC_ok _ _ _ _ _) (m_X11_next hf_3) (cwV 0 X.1.2.2.2.2 gX11_reads_X11_next rfl rfl rfl (by decide +kernel) ⟨Nat.le_of_ble_eq_true rfl, Nat.le_of_ble_eq_true rfl⟩) rfl mm0 (mE_0 cy A (si σ_1 24 (0 : Int32))) rfl rfl (Nat.le_of_ble_eq_true rfl) ⟨by decide, by decide⟩ dX11_reads_16 ?_
    have L_10 : ∀ (n_6 : Nat) (σ_5 : St) (σ_11 : St), f_X11_reads_L19 n_6 σ_5 = some (σ_11) → gG p l e ({ frames := 6, cells := 0, slots := 0, locals := 133 } : Room) s m args below meth c D (cyT cy) B 1 (eI D (cyT cy) (mW cy A X9) B below args s r σ') (mW cy A X9 σ_11) 0 0 43 [(0, .ref (A 0))] [] → gG p l e ({ frames := 6, cells := 0, slots := 0, locals := 133 } : Room) s m args below meth c D (cyT cy) B 1 (eI D (cyT cy) (mW cy A X9) B below args s r σ') (mW cy A X9 σ_5) 0 0 19 [(0, .ref (A 0))] [] := by
      intro n_6
      induction n_6 with
      | zero =>
        intro σ_5 σ_11 h K_8
        rw [f_X11_reads_L19] at h
        cases h
      | succ n_6 ih_7 =>
        intro σ_5 σ_11 h K_8
        rw [f_X11_reads_L19] at h
        refine g_aload_n X dX11_reads_19 rfl 0 rfl ?_
        refine g_get X (AD := A) mm0 (mE_0 cy A σ_5) hin11 rfl 17 (by decide) lk1 (fun _ h9 => h9) rfl dX11_reads_20 ?_
        refine g_iconst X dX11_reads_23 (v := (-1 : Int32)) (by decide) ?_
        refine g_icmp_ne X (tgt := 43) dX11_reads_24 (by decide) (fun hc_12 => ?_) (fun hc_12 => ?_)
        · have h := iff_ hc_12 h
          cases h
          exact g_sub [0] rfl K_8
        · have h := ift hc_12 h
          refine g_aload_n X dX11_reads_27 rfl 0 rfl ?_
          refine g_get X (AD := A) mm0 (mE_0 cy A σ_5) hin11 rfl 14 (by decide) lk3 (fun _ h9 => h9) rfl dX11_reads_28 ?_
          refine g_bipush X dX11_reads_31 (v := (6 : Int32)) (by decide) ?_
          refine g_icmp_eq X (tgt := 43) dX11_reads_33 (by decide) (fun hc_13 => ?_) (fun hc_13 => ?_)
          · have h := ift hc_13 h
            cases h
            exact g_sub [0] rfl K_8
          · have h := iff_ hc_13 h
            refine g_aload_n X dX11_reads_36 rfl 0 rfl ?_
            obtain ⟨σ_15, hf_14, h⟩ := bnd_some h
            refine g_callVV (AD := A) (As := []) X (ZC_ok _ _ _ _ _) (m_X11_takesRun hf_14) (cwV 0 X.1.2.2.2.2 gX11_reads_X11_takesRun rfl rfl rfl (by decide +kernel) ⟨Nat.le_of_ble_eq_true rfl, Nat.le_of_ble_eq_true rfl⟩) rfl mm0 (mE_0 cy A σ_5) rfl rfl (Nat.le_of_ble_eq_true rfl) ⟨by decide, by decide⟩ dX11_reads_37 ?_
            refine g_goto X (tgt := 19) dX11_reads_40 (by decide) ?_
            exact g_sub [0] rfl (ih_7 _ _ h K_8)
    obtain ⟨σ_11, hl_16, h⟩ := bnd_some h
    refine g_sub [0] rfl (L_10 FU σ_4 σ_11 hl_16 ?_)
    refine g_aload_n X dX11_reads_43 rfl 0 rfl ?_
    refine g_get X (AD := A) mm0 (mE_0 cy A σ_11) hin11 rfl 17 (by decide) lk1 (fun _ h9 => h9) rfl dX11_reads_44 ?_
    cases h
    exact g_iret (Wf := mW cy A X9) X ⟨rfl, rfl⟩ dX11_reads_47
  exact K0
set_option maxHeartbeats 8000000 in
set_option maxRecDepth 100000 in
theorem m_X11_fault {σ : St} {r : Int32} {σ' : St} (h : f_X11_fault σ = some (r, σ')) : mI (ZC aK aO aS aV aT) D (cyT cy) l yX11_fault wsX11_fault ({ frames := 7, cells := 0, slots := 0, locals := 153 } : Room) (mW cy A X9) [.ref (A 0)] σ r σ' := by
  unfold f_X11_fault at h
  refine mI_of (cc := cX11_fault) (maxL := 1) (ret := (some .int)) (by decide) rfl (Nat.le_of_ble_eq_true rfl) (fun p e s m args below meth c B X => ?_)
  have K0 : gG p l e ({ frames := 7, cells := 0, slots := 0, locals := 153 } : Room) s m args below meth c D (cyT cy) B 1 (eI D (cyT cy) (mW cy A X9) B below args s r σ') (mW cy A X9 σ) 0 0 0 [(0, .ref (A 0))] [] := by
    refine g_aload_n X dX11_fault_0 rfl 0 rfl ?_
    refine g_aload_n X dX11_fault_1 rfl 0 rfl ?_
    obtain ⟨r_2, σ_3, hf_1, h⟩ := bnd2_some h
    refine g_callVI (AD := A) (As := []) X (ZC_ok _ _ _ _ _) (m_X11_reads hf_1) (cwV 0 X.1.2.2.2.2 gX11_fault_X11_reads rfl rfl rfl (by decide +kernel) ⟨Nat.le_of_ble_eq_true rfl, Nat.le_of_ble_eq_true rfl⟩) rfl mm0 (mE_0 cy A σ) rfl rfl (Nat.le_of_ble_eq_true rfl) ⟨by decide, by decide⟩ dX11_fault_2 ?_
    obtain ⟨r_5, σ_6, hf_4, h⟩ := bnd2_some h
    refine g_callVI (AD := A) (As := [.int r_2]) X (ZC_ok _ _ _ _ _) (m_X11_told hf_4) (cwV 1 X.1.2.2.2.2 gX11_fault_X11_told rfl rfl rfl (by decide +kernel) ⟨Nat.le_of_ble_eq_true rfl, Nat.le_of_ble_eq_true rfl⟩) rfl mm0 (mE_0 cy A σ_3) rfl rfl (Nat.le_of_ble_eq_true rfl) ⟨by decide, by decide⟩ dX11_fault_5 ?_
    cases h
    exact g_iret (Wf := mW cy A X9) X ⟨rfl, rfl⟩ dX11_fault_8
  exact K0
set_option maxHeartbeats 8000000 in
set_option maxRecDepth 100000 in
theorem m_X11_makes {σ : St} {a1 : Int32} {a2 : Int32} {r : Int32} {σ' : St} (h : f_X11_makes a1 a2 σ = some (r, σ')) : mI (ZC aK aO aS aV aT) D (cyT cy) l yX11_makes wsX11_makes ({ frames := 0, cells := 0, slots := 0, locals := 0 } : Room) (mW cy A X9) [.ref (A 0), .int a1, .int a2] σ r σ' := by
  unfold f_X11_makes at h
  refine mI_of (cc := cX11_makes) (maxL := 3) (ret := (some .int)) (by decide) rfl (Nat.le_of_ble_eq_true rfl) (fun p e s m args below meth c B X => ?_)
  have hin11 : ∀ w ∈ wsX110, w ∈ wsX11_makes := by decide +kernel
  have lk0 : Cond.fieldLink RX11 7 "CardcabinetModel" "firsts" "[I" ∈ wsX11_makes := by decide +kernel
  have lk1 : Cond.fieldLink RX11 140 "CardcabinetModel" "made" "I" ∈ wsX11_makes := by decide +kernel
  have lk2 : Cond.fieldLink RX11 13 "CardcabinetModel" "seconds" "[I" ∈ wsX11_makes := by decide +kernel
  have K0 : gG p l e ({ frames := 0, cells := 0, slots := 0, locals := 0 } : Room) s m args below meth c D (cyT cy) B 3 (eI D (cyT cy) (mW cy A X9) B below args s r σ') (mW cy A X9 σ) 0 0 0 [(0, .ref (A 0)), (1, .int a1), (2, .int a2)] [] := by
    refine g_aload_n X dX11_makes_0 rfl 0 rfl ?_
    refine g_get X (AD := A) mm0 (mE_0 cy A σ) hin11 rfl 0 (by decide) lk0 (fun _ h9 => h9) rfl dX11_makes_1 ?_
    refine g_aload_n X dX11_makes_4 rfl 0 rfl ?_
    refine g_get X (AD := A) mm0 (mE_0 cy A σ) hin11 rfl 2 (by decide) lk1 (fun _ h9 => h9) rfl dX11_makes_5 ?_
    refine g_iload_n X dX11_makes_8 rfl 1 rfl ?_
    obtain ⟨hg_1, h⟩ := grd_some h
    refine g_iast X (AD := A) (σ' := sr σ 1 (upd (gr σ 1) (gi σ 2).toNatClampNeg a1)) mm1 (mE_1 cy A σ) 0 rfl hg_1 (sm_a1 cy A σ (upd (gr σ 1) (gi σ 2).toNatClampNeg a1)) dX11_makes_9 ?_
    obtain ⟨σ_2, e_3, h⟩ := bnd_some h
    have e_3 := Option.some.inj e_3
    rw [e_3]
    refine g_aload_n X dX11_makes_10 rfl 0 rfl ?_
    refine g_get X (AD := A) mm0 (mE_0 cy A σ_2) hin11 rfl 1 (by decide) lk2 (fun _ h9 => h9) rfl dX11_makes_11 ?_
    refine g_aload_n X dX11_makes_14 rfl 0 rfl ?_
    refine g_get X (AD := A) mm0 (mE_0 cy A σ_2) hin11 rfl 2 (by decide) lk1 (fun _ h9 => h9) rfl dX11_makes_15 ?_
    refine g_iload_n X dX11_makes_18 rfl 2 rfl ?_
    obtain ⟨hg_4, h⟩ := grd_some h
    refine g_iast X (AD := A) (σ' := sr σ_2 2 (upd (gr σ_2 2) (gi σ_2 2).toNatClampNeg a2)) mm2 (mE_2 cy A σ_2) 0 rfl hg_4 (sm_a2 cy A σ_2 (upd (gr σ_2 2) (gi σ_2 2).toNatClampNeg a2)) dX11_makes_19 ?_
    obtain ⟨σ_5, e_6, h⟩ := bnd_some h
    have e_6 := Option.some.inj e_6
    rw [e_6]
    refine g_aload_n X dX11_makes_20 rfl 0 rfl ?_
    refine g_dup X dX11_makes_21 rfl ?_
    refine g_get X (AD := A) mm0 (mE_0 cy A σ_5) hin11 rfl 2 (by decide) lk1 (fun _ h9 => h9) rfl dX11_makes_22 ?_
    refine g_iconst X dX11_makes_25 (v := (1 : Int32)) (by decide) ?_
    refine g_iadd X dX11_makes_26 ?_
    refine g_put X (AD := A) (ty := .int) (v := .int ((gi σ_5 2) + (1 : Int32))) (σ' := si σ_5 2 ((gi σ_5 2) + (1 : Int32))) mm0 (mE_0 cy A σ_5) hin11 rfl tyX11 tyX11_ok nmX11 2 (by decide) lk1 (fun _ h9 => h9) rfl (by decide +kernel) rfl rfl (Nat.le_of_ble_eq_true rfl) (sm_2 cy A σ_5 ((gi σ_5 2) + (1 : Int32))) dX11_makes_27 ?_
    refine g_aload_n X dX11_makes_30 rfl 0 rfl ?_
    refine g_get X (AD := A) mm0 (mE_0 cy A (si σ_5 2 ((gi σ_5 2) + (1 : Int32)))) hin11 rfl 2 (by decide) lk1 (fun _ h9 => h9) rfl dX11_makes_31 ?_
    refine g_iconst X dX11_makes_34 (v := (1 : Int32)) (by decide) ?_
    refine g_isub X dX11_makes_35 ?_
    cases h
    exact g_iret (Wf := mW cy A X9) X ⟨rfl, rfl⟩ dX11_makes_36
  exact K0
set_option maxHeartbeats 8000000 in
set_option maxRecDepth 100000 in
theorem m_X11_draws {σ : St} {a1 : Int32} {r : Int32} {σ' : St} (h : f_X11_draws a1 σ = some (r, σ')) : mI (ZC aK aO aS aV aT) D (cyT cy) l yX11_draws wsX11_draws ({ frames := 0, cells := 0, slots := 0, locals := 0 } : Room) (mW cy A X9) [.ref (A 0), .int a1] σ r σ' := by
  unfold f_X11_draws at h
  refine mI_of (cc := cX11_draws) (maxL := 2) (ret := (some .int)) (by decide) rfl (Nat.le_of_ble_eq_true rfl) (fun p e s m args below meth c B X => ?_)
  have hin11 : ∀ w ∈ wsX110, w ∈ wsX11_draws := by decide +kernel
  have lk0 : Cond.fieldLink RX11 31 "CardcabinetModel" "seed" "I" ∈ wsX11_draws := by decide +kernel
  have lk1 : Cond.constant RX11 143 (1103515245) ∈ wsX11_draws := by decide +kernel
  have K0 : gG p l e ({ frames := 0, cells := 0, slots := 0, locals := 0 } : Room) s m args below meth c D (cyT cy) B 2 (eI D (cyT cy) (mW cy A X9) B below args s r σ') (mW cy A X9 σ) 0 0 0 [(0, .ref (A 0)), (1, .int a1)] [] := by
    refine g_aload_n X dX11_draws_0 rfl 0 rfl ?_
    refine g_aload_n X dX11_draws_1 rfl 0 rfl ?_
    refine g_get X (AD := A) mm0 (mE_0 cy A σ) hin11 rfl 9 (by decide) lk0 (fun _ h9 => h9) rfl dX11_draws_2 ?_
    refine g_ldc X dX11_draws_5 lk1 ?_
    refine g_imul X dX11_draws_7 ?_
    refine g_sipush X dX11_draws_8 (v := (12345 : Int32)) (by decide) ?_
    refine g_iadd X dX11_draws_11 ?_
    refine g_put X (AD := A) (ty := .int) (v := .int (((gi σ 9) * (1103515245 : Int32)) + (12345 : Int32))) (σ' := si σ 9 (((gi σ 9) * (1103515245 : Int32)) + (12345 : Int32))) mm0 (mE_0 cy A σ) hin11 rfl tyX11 tyX11_ok nmX11 9 (by decide) lk0 (fun _ h9 => h9) rfl (by decide +kernel) rfl rfl (Nat.le_of_ble_eq_true rfl) (sm_9 cy A σ (((gi σ 9) * (1103515245 : Int32)) + (12345 : Int32))) dX11_draws_12 ?_
    obtain ⟨σ_1, e_2, h⟩ := bnd_some h
    have e_2 := Option.some.inj e_2
    rw [e_2]
    refine g_aload_n X dX11_draws_15 rfl 0 rfl ?_
    refine g_get X (AD := A) mm0 (mE_0 cy A σ_1) hin11 rfl 9 (by decide) lk0 (fun _ h9 => h9) rfl dX11_draws_16 ?_
    refine g_bipush X dX11_draws_19 (v := (16 : Int32)) (by decide) ?_
    refine g_iushr X dX11_draws_21 ?_
    refine g_iload_n X dX11_draws_22 rfl 1 rfl ?_
    obtain ⟨hg_3, h⟩ := grd_some h
    refine g_irem X dX11_draws_23 hg_3 ?_
    cases h
    exact g_iret (Wf := mW cy A X9) X ⟨rfl, rfl⟩ dX11_draws_24
  exact K0
set_option maxHeartbeats 8000000 in
set_option maxRecDepth 100000 in
theorem m_X11_firstOf {σ : St} {a1 : Int32} {a2 : Int32} {r : Int32} {σ' : St} (h : f_X11_firstOf a1 a2 σ = some (r, σ')) : mI (ZC aK aO aS aV aT) D (cyT cy) l yX11_firstOf wsX11_firstOf ({ frames := 1, cells := 0, slots := 0, locals := 21 } : Room) (mW cy A X9) [.ref (A 0), .int a1, .int a2] σ r σ' := by
  unfold f_X11_firstOf at h
  refine mI_of (cc := cX11_firstOf) (maxL := 5) (ret := (some .int)) (by decide) rfl (Nat.le_of_ble_eq_true rfl) (fun p e s m args below meth c B X => ?_)
  have hin11 : ∀ w ∈ wsX110, w ∈ wsX11_firstOf := by decide +kernel
  have lk0 : Cond.fieldLink RX11 47 "CardcabinetModel" "runStart" "[I" ∈ wsX11_firstOf := by decide +kernel
  have lk1 : Cond.fieldLink RX11 50 "CardcabinetModel" "runStep" "[I" ∈ wsX11_firstOf := by decide +kernel
  have lk2 : Cond.fieldLink RX11 41 "CardcabinetModel" "runKind" "[I" ∈ wsX11_firstOf := by decide +kernel
  have lk3 : Cond.fieldLink RX11 53 "CardcabinetModel" "runLength" "[I" ∈ wsX11_firstOf := by decide +kernel
  have K0 : gG p l e ({ frames := 1, cells := 0, slots := 0, locals := 21 } : Room) s m args below meth c D (cyT cy) B 5 (eI D (cyT cy) (mW cy A X9) B below args s r σ') (mW cy A X9 σ) 0 0 0 [(0, .ref (A 0)), (1, .int a1), (2, .int a2)] [] := by
    refine g_aload_n X dX11_firstOf_0 rfl 0 rfl ?_
    refine g_get X (AD := A) mm0 (mE_0 cy A σ) hin11 rfl 20 (by decide) lk0 (fun _ h9 => h9) rfl dX11_firstOf_1 ?_
    refine g_iload_n X dX11_firstOf_4 rfl 1 rfl ?_
    obtain ⟨hg_1, h⟩ := grd_some h
    refine g_iald X (AD := A) mm21 (mE_21 cy A σ) 0 rfl hg_1 dX11_firstOf_5 ?_
    refine g_istore_n X dX11_firstOf_6 rfl (by decide) (lv' := [(3, .int (gr σ 21 a1.toNatClampNeg)), (0, .ref (A 0)), (1, .int a1), (2, .int a2)]) rfl ?_
    refine g_aload_n X dX11_firstOf_7 rfl 1 rfl ?_
    refine g_get X (AD := A) mm0 (mE_0 cy A σ) hin11 rfl 21 (by decide) lk1 (fun _ h9 => h9) rfl dX11_firstOf_8 ?_
    refine g_iload_n X dX11_firstOf_11 rfl 2 rfl ?_
    obtain ⟨hg_2, h⟩ := grd_some h
    refine g_iald X (AD := A) mm22 (mE_22 cy A σ) 0 rfl hg_2 dX11_firstOf_12 ?_
    refine g_istore X dX11_firstOf_13 (by decide) (lv' := [(4, .int (gr σ 22 a1.toNatClampNeg)), (3, .int (gr σ 21 a1.toNatClampNeg)), (0, .ref (A 0)), (1, .int a1), (2, .int a2)]) rfl ?_
    refine g_aload_n X dX11_firstOf_15 rfl 2 rfl ?_
    refine g_get X (AD := A) mm0 (mE_0 cy A σ) hin11 rfl 18 (by decide) lk2 (fun _ h9 => h9) rfl dX11_firstOf_16 ?_
    refine g_iload_n X dX11_firstOf_19 rfl 3 rfl ?_
    obtain ⟨hg_3, h⟩ := grd_some h
    refine g_iald X (AD := A) mm19 (mE_19 cy A σ) 0 rfl hg_3 dX11_firstOf_20 ?_
    by_cases hc_4 : (gr σ 19 a1.toNatClampNeg) = 1
    · have h := ift hc_4 h
      refine g_tabIn X (offq := 35) (tgt := 56) dX11_firstOf_21 (by rw [hc_4]; decide) (by rw [hc_4]; decide) (by rw [hc_4]; rfl) (by decide) ?_
      refine g_iload_n X dX11_firstOf_56 rfl 1 rfl ?_
      refine g_iload_n X dX11_firstOf_57 rfl 4 rfl ?_
      refine g_iload X dX11_firstOf_58 0 rfl ?_
      refine g_imul X dX11_firstOf_60 ?_
      refine g_iadd X dX11_firstOf_61 ?_
      cases h
      exact g_iret (Wf := mW cy A X9) X ⟨rfl, rfl⟩ dX11_firstOf_62
    have h := iff_ hc_4 h
    by_cases hc_5 : (gr σ 19 a1.toNatClampNeg) = 2
    · have h := ift hc_5 h
      refine g_tabIn X (offq := 42) (tgt := 63) dX11_firstOf_21 (by rw [hc_5]; decide) (by rw [hc_5]; decide) (by rw [hc_5]; rfl) (by decide) ?_
      refine g_iload_n X dX11_firstOf_63 rfl 1 rfl ?_
      refine g_iload_n X dX11_firstOf_64 rfl 4 rfl ?_
      refine g_iload X dX11_firstOf_65 0 rfl ?_
      refine g_imul X dX11_firstOf_67 ?_
      refine g_isub X dX11_firstOf_68 ?_
      cases h
      exact g_iret (Wf := mW cy A X9) X ⟨rfl, rfl⟩ dX11_firstOf_69
    have h := iff_ hc_5 h
    by_cases hc_10 : (gr σ 19 a1.toNatClampNeg) = 3
    · have h := ift hc_10 h
      refine g_tabIn X (offq := 49) (tgt := 70) dX11_firstOf_21 (by rw [hc_10]; decide) (by rw [hc_10]; decide) (by rw [hc_10]; rfl) (by decide) ?_
      refine g_iload_n X dX11_firstOf_70 rfl 4 rfl ?_
      refine g_iconst X dX11_firstOf_71 (v := (2 : Int32)) (by decide) ?_
      refine g_irem X dX11_firstOf_72 (by decide) ?_
      obtain ⟨v_7, hj_9, h⟩ := bnd_some h
      have K_8 : gG p l e ({ frames := 1, cells := 0, slots := 0, locals := 21 } : Room) s m args below meth c D (cyT cy) B 5 (eI D (cyT cy) (mW cy A X9) B below args s r σ') (mW cy A X9 σ) 0 0 84 [] [.int v_7] := by
        cases h
        exact g_iret (Wf := mW cy A X9) X ⟨rfl, rfl⟩ dX11_firstOf_84
      have h := hj_9
      clear hj_9
      refine g_if_ne X (tgt := 80) dX11_firstOf_73 (by decide) (fun hc_6 => ?_) (fun hc_6 => ?_)
      · have h := iff_ hc_6 h
        refine g_iload_n X dX11_firstOf_80 rfl 1 rfl ?_
        refine g_iload X dX11_firstOf_81 0 rfl ?_
        refine g_iadd X dX11_firstOf_83 ?_
        cases h
        exact g_sub [] rfl K_8
      · have h := ift hc_6 h
        refine g_iload_n X dX11_firstOf_76 rfl 1 rfl ?_
        refine g_goto X (tgt := 84) dX11_firstOf_77 (by decide) ?_
        cases h
        exact g_sub [] rfl K_8
    have h := iff_ hc_10 h
    by_cases hc_14 : (gr σ 19 a1.toNatClampNeg) = 4
    · have h := ift hc_14 h
      refine g_tabIn X (offq := 64) (tgt := 85) dX11_firstOf_21 (by rw [hc_14]; decide) (by rw [hc_14]; decide) (by rw [hc_14]; rfl) (by decide) ?_
      refine g_iload_n X dX11_firstOf_85 rfl 1 rfl ?_
      refine g_aload_n X dX11_firstOf_86 rfl 2 rfl ?_
      refine g_iload X dX11_firstOf_87 0 rfl ?_
      refine g_iconst X dX11_firstOf_89 (v := (1 : Int32)) (by decide) ?_
      refine g_iadd X dX11_firstOf_90 ?_
      obtain ⟨r_12, σ_13, hf_11, h⟩ := bnd2_some h
      refine g_callVI (AD := A) (As := [.int ((gr σ 22 a1.toNatClampNeg) + (1 : Int32))]) X (ZC_ok _ _ _ _ _) (m_X11_draws hf_11) (cwV 1 X.1.2.2.2.2 gX11_firstOf_X11_draws rfl rfl rfl (by decide +kernel) ⟨Nat.le_of_ble_eq_true rfl, Nat.le_of_ble_eq_true rfl⟩) rfl mm0 (mE_0 cy A σ) rfl rfl (Nat.le_of_ble_eq_true rfl) ⟨by decide, by decide⟩ dX11_firstOf_91 ?_
      refine g_iadd X dX11_firstOf_94 ?_
      cases h
      exact g_iret (Wf := mW cy A X9) X ⟨rfl, rfl⟩ dX11_firstOf_95
    have h := iff_ hc_14 h
    by_cases hc_17 : (gr σ 19 a1.toNatClampNeg) = 5
    · have h := ift hc_17 h
      refine g_tabIn X (offq := 75) (tgt := 96) dX11_firstOf_21 (by rw [hc_17]; decide) (by rw [hc_17]; decide) (by rw [hc_17]; rfl) (by decide) ?_
      refine g_iload_n X dX11_firstOf_96 rfl 1 rfl ?_
      refine g_iload X dX11_firstOf_97 0 rfl ?_
      refine g_iload_n X dX11_firstOf_99 rfl 4 rfl ?_
      refine g_aload_n X dX11_firstOf_100 rfl 2 rfl ?_
      refine g_get X (AD := A) mm0 (mE_0 cy A σ) hin11 rfl 22 (by decide) lk3 (fun _ h9 => h9) rfl dX11_firstOf_101 ?_
      refine g_iload_n X dX11_firstOf_104 rfl 3 rfl ?_
      obtain ⟨hg_15, h⟩ := grd_some h
      refine g_iald X (AD := A) mm23 (mE_23 cy A σ) 0 rfl hg_15 dX11_firstOf_105 ?_
      obtain ⟨hg_16, h⟩ := grd_some h
      refine g_irem X dX11_firstOf_106 hg_16 ?_
      refine g_imul X dX11_firstOf_107 ?_
      refine g_iadd X dX11_firstOf_108 ?_
      cases h
      exact g_iret (Wf := mW cy A X9) X ⟨rfl, rfl⟩ dX11_firstOf_109
    have h := iff_ hc_17 h
    have hn_18 : (gr σ 19 a1.toNatClampNeg).toInt ≠ 1 := i32ne hc_4
    have hn_19 : (gr σ 19 a1.toNatClampNeg).toInt ≠ 2 := i32ne hc_5
    have hn_20 : (gr σ 19 a1.toNatClampNeg).toInt ≠ 3 := i32ne hc_10
    have hn_21 : (gr σ 19 a1.toNatClampNeg).toInt ≠ 4 := i32ne hc_14
    have hn_22 : (gr σ 19 a1.toNatClampNeg).toInt ≠ 5 := i32ne hc_17
    refine g_tabOut X (tgt := 110) dX11_firstOf_21 (by omega) (by decide) ?_
    refine g_iload_n X dX11_firstOf_110 rfl 1 rfl ?_
    cases h
    exact g_iret (Wf := mW cy A X9) X ⟨rfl, rfl⟩ dX11_firstOf_111
  exact K0
set_option maxHeartbeats 8000000 in
set_option maxRecDepth 100000 in
theorem m_X11_lay {σ : St} {a1 : Int32} {r : Int32} {σ' : St} (h : f_X11_lay a1 σ = some (r, σ')) : mI (ZC aK aO aS aV aT) D (cyT cy) l yX11_lay wsX11_lay ({ frames := 7, cells := 0, slots := 0, locals := 153 } : Room) (mW cy A X9) [.ref (A 0), .int a1] σ r σ' := by
  unfold f_X11_lay at h
  refine mI_of (cc := cX11_lay) (maxL := 6) (ret := (some .int)) (by decide) rfl (Nat.le_of_ble_eq_true rfl) (fun p e s m args below meth c B X => ?_)
  have hin11 : ∀ w ∈ wsX110, w ∈ wsX11_lay := by decide +kernel
  have lk0 : Cond.fieldLink RX11 131 "CardcabinetModel" "runMany" "I" ∈ wsX11_lay := by decide +kernel
  have lk1 : Cond.fieldLink RX11 44 "CardcabinetModel" "runCount" "[I" ∈ wsX11_lay := by decide +kernel
  have lk2 : Cond.fieldLink RX11 22 "CardcabinetModel" "many" "[I" ∈ wsX11_lay := by decide +kernel
  have lk3 : Cond.fieldLink RX11 140 "CardcabinetModel" "made" "I" ∈ wsX11_lay := by decide +kernel
  have lk4 : Cond.fieldLink RX11 16 "CardcabinetModel" "cards" "[I" ∈ wsX11_lay := by decide +kernel
  have lk5 : Cond.fieldLink RX11 56 "CardcabinetModel" "runDivisor" "[I" ∈ wsX11_lay := by decide +kernel
  have K0 : gG p l e ({ frames := 7, cells := 0, slots := 0, locals := 153 } : Room) s m args below meth c D (cyT cy) B 6 (eI D (cyT cy) (mW cy A X9) B below args s r σ') (mW cy A X9 σ) 0 0 0 [(0, .ref (A 0)), (1, .int a1)] [] := by
    refine g_iload_n X dX11_lay_0 rfl 1 rfl ?_
    obtain ⟨r_2, hf_1, h⟩ := bnd_some h
    refine g_callSI (AD := A) (As := [.int a1]) X (ZC_ok _ _ _ _ _) (m_X11_isRow hf_1) (va_cwS 1 X.1.2.2.2.2 gX11_lay_X11_isRow rfl rfl rfl (by decide +kernel) ⟨Nat.le_of_ble_eq_true rfl, Nat.le_of_ble_eq_true rfl⟩) rfl rfl (Nat.le_of_ble_eq_true rfl) ⟨by decide, by decide⟩ dX11_lay_1 ?_
    refine g_if_ne X (tgt := 13) dX11_lay_4 (by decide) (fun hc_3 => ?_) (fun hc_3 => ?_)
    · have h := iff_ hc_3 h
      refine g_aload_n X dX11_lay_13 rfl 0 rfl ?_
      obtain ⟨r_5, σ_6, hf_4, h⟩ := bnd2_some h
      refine g_callVI (AD := A) (As := []) X (ZC_ok _ _ _ _ _) (m_X11_reads hf_4) (cwV 0 X.1.2.2.2.2 gX11_lay_X11_reads rfl rfl rfl (by decide +kernel) ⟨Nat.le_of_ble_eq_true rfl, Nat.le_of_ble_eq_true rfl⟩) rfl mm0 (mE_0 cy A σ) rfl rfl (Nat.le_of_ble_eq_true rfl) ⟨by decide, by decide⟩ dX11_lay_14 ?_
      refine g_iconst X dX11_lay_17 (v := (-1 : Int32)) (by decide) ?_
      obtain ⟨v_8, hj_82, h⟩ := bnd_some h
      have K_9 : gG p l e ({ frames := 7, cells := 0, slots := 0, locals := 153 } : Room) s m args below meth c D (cyT cy) B 6 (eI D (cyT cy) (mW cy A X9) B below args s r σ') (mW cy A X9 σ_6) 0 0 26 [(0, .ref (A 0)), (1, .int a1)] [.int v_8] := by
        refine g_istore_n X dX11_lay_26 rfl (by decide) (lv' := [(2, .int v_8), (0, .ref (A 0)), (1, .int a1)]) rfl ?_
        refine g_iconst X dX11_lay_27 (v := (0 : Int32)) (by decide) ?_
        refine g_istore_n X dX11_lay_28 rfl (by decide) (lv' := [(3, .int (0 : Int32)), (2, .int v_8), (0, .ref (A 0)), (1, .int a1)]) rfl ?_
        refine g_iconst X dX11_lay_29 (v := (0 : Int32)) (by decide) ?_
        refine g_istore X dX11_lay_30 (by decide) (lv' := [(4, .int (0 : Int32)), (3, .int (0 : Int32)), (2, .int v_8), (0, .ref (A 0)), (1, .int a1)]) rfl ?_
        have L_19 : ∀ (c_10 : Int32) (c_11 : Int32) (σ_14 : St) (n_15 : Nat) (v_12 : Int32) (v_13 : Int32) (o_20 : Int32), f_X11_lay_L32 σ_14 n_15 v_12 v_13 = some (o_20) → gG p l e ({ frames := 7, cells := 0, slots := 0, locals := 153 } : Room) s m args below meth c D (cyT cy) B 6 (eI D (cyT cy) (mW cy A X9) B below args s r σ') (mW cy A X9 σ_14) 0 0 57 [(0, .ref (A 0)), (1, .int c_10), (2, .int c_11), (3, .int o_20)] [] → gG p l e ({ frames := 7, cells := 0, slots := 0, locals := 153 } : Room) s m args below meth c D (cyT cy) B 6 (eI D (cyT cy) (mW cy A X9) B below args s r σ') (mW cy A X9 σ_14) 0 0 32 [(0, .ref (A 0)), (1, .int c_10), (2, .int c_11), (3, .int v_12), (4, .int v_13)] [] := by
          intro c_10 c_11 σ_14 n_15
          induction n_15 with
          | zero =>
            intro v_12 v_13 o_20 h K_17
            rw [f_X11_lay_L32] at h
            cases h
          | succ n_15 ih_16 =>
            intro v_12 v_13 o_20 h K_17
            rw [f_X11_lay_L32] at h
            refine g_iload X dX11_lay_32 4 rfl ?_
            refine g_aload_n X dX11_lay_34 rfl 0 rfl ?_
            refine g_get X (AD := A) mm0 (mE_0 cy A σ_14) hin11 rfl 24 (by decide) lk0 (fun _ h9 => h9) rfl dX11_lay_35 ?_
            refine g_icmp_ge X (tgt := 57) dX11_lay_38 (by decide) (fun hc_21 => ?_) (fun hc_21 => ?_)
            · have h := ift hc_21 h
              cases h
              exact g_sub [0, 1, 2, 3] rfl K_17
            · have h := iff_ hc_21 h
              refine g_iload_n X dX11_lay_41 rfl 3 rfl ?_
              refine g_aload_n X dX11_lay_42 rfl 0 rfl ?_
              refine g_get X (AD := A) mm0 (mE_0 cy A σ_14) hin11 rfl 19 (by decide) lk1 (fun _ h9 => h9) rfl dX11_lay_43 ?_
              refine g_iload X dX11_lay_46 4 rfl ?_
              obtain ⟨hg_22, h⟩ := grd_some h
              refine g_iald X (AD := A) mm20 (mE_20 cy A σ_14) 0 rfl hg_22 dX11_lay_48 ?_
              refine g_iadd X dX11_lay_49 ?_
              refine g_istore_n X dX11_lay_50 rfl (by decide) (lv' := [(3, .int (v_12 + (gr σ_14 20 v_13.toNatClampNeg))), (0, .ref (A 0)), (1, .int c_10), (2, .int c_11), (4, .int v_13)]) rfl ?_
              refine g_iinc X dX11_lay_51 4 rfl (v := v_13 + (1 : Int32)) rfl (by decide) (lv' := [(4, .int (v_13 + (1 : Int32))), (3, .int (v_12 + (gr σ_14 20 v_13.toNatClampNeg))), (0, .ref (A 0)), (1, .int c_10), (2, .int c_11)]) rfl ?_
              refine g_goto X (tgt := 32) dX11_lay_54 (by decide) ?_
              exact g_sub [2, 3, 4, 1, 0] rfl (ih_16 _ _ _ h K_17)
        obtain ⟨o_20, hl_23, h⟩ := bnd_some h
        refine g_sub [3, 4, 2, 1, 0] rfl (L_19 a1 v_8 σ_6 FU (0 : Int32) (0 : Int32) o_20 hl_23 ?_)
        refine g_iload_n X dX11_lay_57 rfl 2 rfl ?_
        refine g_if_eq X (tgt := 87) dX11_lay_58 (by decide) (fun hc_24 => ?_) (fun hc_24 => ?_)
        · have h := ift hc_24 h
          refine g_aload_n X dX11_lay_87 rfl 0 rfl ?_
          refine g_iconst X dX11_lay_88 (v := (2 : Int32)) (by decide) ?_
          obtain ⟨r_26, σ_27, hf_25, h⟩ := bnd2_some h
          refine g_callVI (AD := A) (As := [.int (2 : Int32)]) X (ZC_ok _ _ _ _ _) (m_X11_refuse hf_25) (cwV 1 X.1.2.2.2.2 gX11_lay_X11_refuse rfl rfl rfl (by decide +kernel) ⟨Nat.le_of_ble_eq_true rfl, Nat.le_of_ble_eq_true rfl⟩) rfl mm0 (mE_0 cy A σ_6) rfl rfl (Nat.le_of_ble_eq_true rfl) ⟨by decide, by decide⟩ dX11_lay_89 ?_
          cases h
          exact g_iret (Wf := mW cy A X9) X ⟨rfl, rfl⟩ dX11_lay_92
        · have h := iff_ hc_24 h
          refine g_aload_n X dX11_lay_61 rfl 0 rfl ?_
          refine g_get X (AD := A) mm0 (mE_0 cy A σ_6) hin11 rfl 5 (by decide) lk2 (fun _ h9 => h9) rfl dX11_lay_62 ?_
          refine g_iload_n X dX11_lay_65 rfl 1 rfl ?_
          obtain ⟨hg_28, h⟩ := grd_some h
          refine g_iald X (AD := A) mm6 (mE_6 cy A σ_6) 0 rfl hg_28 dX11_lay_66 ?_
          refine g_iload_n X dX11_lay_67 rfl 3 rfl ?_
          refine g_iadd X dX11_lay_68 ?_
          refine g_sipush X dX11_lay_69 (v := (800 : Int32)) (by decide) ?_
          refine g_icmp_gt X (tgt := 87) dX11_lay_72 (by decide) (fun hc_29 => ?_) (fun hc_29 => ?_)
          · have h := ift hc_29 h
            refine g_aload_n X dX11_lay_87 rfl 0 rfl ?_
            refine g_iconst X dX11_lay_88 (v := (2 : Int32)) (by decide) ?_
            obtain ⟨r_31, σ_32, hf_30, h⟩ := bnd2_some h
            refine g_callVI (AD := A) (As := [.int (2 : Int32)]) X (ZC_ok _ _ _ _ _) (m_X11_refuse hf_30) (cwV 1 X.1.2.2.2.2 gX11_lay_X11_refuse rfl rfl rfl (by decide +kernel) ⟨Nat.le_of_ble_eq_true rfl, Nat.le_of_ble_eq_true rfl⟩) rfl mm0 (mE_0 cy A σ_6) rfl rfl (Nat.le_of_ble_eq_true rfl) ⟨by decide, by decide⟩ dX11_lay_89 ?_
            cases h
            exact g_iret (Wf := mW cy A X9) X ⟨rfl, rfl⟩ dX11_lay_92
          · have h := iff_ hc_29 h
            refine g_aload_n X dX11_lay_75 rfl 0 rfl ?_
            refine g_get X (AD := A) mm0 (mE_0 cy A σ_6) hin11 rfl 2 (by decide) lk3 (fun _ h9 => h9) rfl dX11_lay_76 ?_
            refine g_iload_n X dX11_lay_79 rfl 3 rfl ?_
            refine g_iadd X dX11_lay_80 ?_
            refine g_sipush X dX11_lay_81 (v := (20000 : Int32)) (by decide) ?_
            refine g_icmp_le X (tgt := 93) dX11_lay_84 (by decide) (fun hc_33 => ?_) (fun hc_33 => ?_)
            · have h := ift hc_33 h
              refine g_iconst X dX11_lay_93 (v := (0 : Int32)) (by decide) ?_
              refine g_istore X dX11_lay_94 (by decide) (lv' := [(4, .int (0 : Int32)), (0, .ref (A 0)), (1, .int a1), (2, .int v_8), (3, .int o_20)]) rfl ?_
              have L_42 : ∀ (c_34 : Int32) (c_35 : Int32) (n_38 : Nat) (v_36 : Int32) (σ_37 : St) (σ_43 : St), f_X11_lay_L96 c_34 n_38 v_36 σ_37 = some (σ_43) → gG p l e ({ frames := 7, cells := 0, slots := 0, locals := 153 } : Room) s m args below meth c D (cyT cy) B 6 (eI D (cyT cy) (mW cy A X9) B below args s r σ') (mW cy A X9 σ_43) 0 0 181 [(0, .ref (A 0)), (3, .int c_35)] [] → gG p l e ({ frames := 7, cells := 0, slots := 0, locals := 153 } : Room) s m args below meth c D (cyT cy) B 6 (eI D (cyT cy) (mW cy A X9) B below args s r σ') (mW cy A X9 σ_37) 0 0 96 [(0, .ref (A 0)), (1, .int c_34), (3, .int c_35), (4, .int v_36)] [] := by
                intro c_34 c_35 n_38
                induction n_38 with
                | zero =>
                  intro v_36 σ_37 σ_43 h K_40
                  rw [f_X11_lay_L96] at h
                  cases h
                | succ n_38 ih_39 =>
                  intro v_36 σ_37 σ_43 h K_40
                  rw [f_X11_lay_L96] at h
                  refine g_iload X dX11_lay_96 3 rfl ?_
                  refine g_aload_n X dX11_lay_98 rfl 0 rfl ?_
                  refine g_get X (AD := A) mm0 (mE_0 cy A σ_37) hin11 rfl 24 (by decide) lk0 (fun _ h9 => h9) rfl dX11_lay_99 ?_
                  refine g_icmp_ge X (tgt := 181) dX11_lay_102 (by decide) (fun hc_44 => ?_) (fun hc_44 => ?_)
                  · have h := ift hc_44 h
                    cases h
                    exact g_sub [0, 2] rfl K_40
                  · have h := iff_ hc_44 h
                    refine g_iconst X dX11_lay_105 (v := (0 : Int32)) (by decide) ?_
                    refine g_istore X dX11_lay_106 (by decide) (lv' := [(5, .int (0 : Int32)), (0, .ref (A 0)), (1, .int c_34), (3, .int c_35), (4, .int v_36)]) rfl ?_
                    have L_54 : ∀ (c_45 : Int32) (c_46 : Int32) (c_47 : Int32) (n_50 : Nat) (v_48 : Int32) (σ_49 : St) (σ_55 : St), f_X11_lay_L108 c_45 c_47 n_50 v_48 σ_49 = some (σ_55) → gG p l e ({ frames := 7, cells := 0, slots := 0, locals := 153 } : Room) s m args below meth c D (cyT cy) B 6 (eI D (cyT cy) (mW cy A X9) B below args s r σ') (mW cy A X9 σ_55) 0 0 175 [(0, .ref (A 0)), (1, .int c_45), (3, .int c_46), (4, .int c_47)] [] → gG p l e ({ frames := 7, cells := 0, slots := 0, locals := 153 } : Room) s m args below meth c D (cyT cy) B 6 (eI D (cyT cy) (mW cy A X9) B below args s r σ') (mW cy A X9 σ_49) 0 0 108 [(0, .ref (A 0)), (1, .int c_45), (3, .int c_46), (4, .int c_47), (5, .int v_48)] [] := by
                      intro c_45 c_46 c_47 n_50
                      induction n_50 with
                      | zero =>
                        intro v_48 σ_49 σ_55 h K_52
                        rw [f_X11_lay_L108] at h
                        cases h
                      | succ n_50 ih_51 =>
                        intro v_48 σ_49 σ_55 h K_52
                        rw [f_X11_lay_L108] at h
                        refine g_iload X dX11_lay_108 4 rfl ?_
                        refine g_aload_n X dX11_lay_110 rfl 0 rfl ?_
                        refine g_get X (AD := A) mm0 (mE_0 cy A σ_49) hin11 rfl 19 (by decide) lk1 (fun _ h9 => h9) rfl dX11_lay_111 ?_
                        refine g_iload X dX11_lay_114 3 rfl ?_
                        obtain ⟨hg_56, h⟩ := grd_some h
                        refine g_iald X (AD := A) mm20 (mE_20 cy A σ_49) 0 rfl hg_56 dX11_lay_116 ?_
                        refine g_icmp_ge X (tgt := 175) dX11_lay_117 (by decide) (fun hc_57 => ?_) (fun hc_57 => ?_)
                        · have h := ift hc_57 h
                          cases h
                          exact g_sub [0, 1, 2, 3] rfl K_52
                        · have h := iff_ hc_57 h
                          refine g_aload_n X dX11_lay_120 rfl 0 rfl ?_
                          refine g_get X (AD := A) mm0 (mE_0 cy A σ_49) hin11 rfl 3 (by decide) lk4 (fun _ h9 => h9) rfl dX11_lay_121 ?_
                          refine g_sipush X dX11_lay_124 (v := (800 : Int32)) (by decide) ?_
                          refine g_iload_n X dX11_lay_127 rfl 1 rfl ?_
                          refine g_imul X dX11_lay_128 ?_
                          refine g_aload_n X dX11_lay_129 rfl 0 rfl ?_
                          refine g_get X (AD := A) mm0 (mE_0 cy A σ_49) hin11 rfl 5 (by decide) lk2 (fun _ h9 => h9) rfl dX11_lay_130 ?_
                          refine g_iload_n X dX11_lay_133 rfl 1 rfl ?_
                          obtain ⟨hg_58, h⟩ := grd_some h
                          refine g_iald X (AD := A) mm6 (mE_6 cy A σ_49) 0 rfl hg_58 dX11_lay_134 ?_
                          refine g_iadd X dX11_lay_135 ?_
                          refine g_aload_n X dX11_lay_136 rfl 0 rfl ?_
                          refine g_aload_n X dX11_lay_137 rfl 0 rfl ?_
                          refine g_iload X dX11_lay_138 3 rfl ?_
                          refine g_iload X dX11_lay_140 4 rfl ?_
                          obtain ⟨r_60, σ_61, hf_59, h⟩ := bnd2_some h
                          refine g_callVI (AD := A) (As := [.int c_47, .int v_48]) X (ZC_ok _ _ _ _ _) (m_X11_firstOf hf_59) (cwV 2 X.1.2.2.2.2 gX11_lay_X11_firstOf rfl rfl rfl (by decide +kernel) ⟨Nat.le_of_ble_eq_true rfl, Nat.le_of_ble_eq_true rfl⟩) rfl mm0 (mE_0 cy A σ_49) rfl rfl (Nat.le_of_ble_eq_true rfl) ⟨by decide, by decide⟩ dX11_lay_142 ?_
                          refine g_iload X dX11_lay_145 4 rfl ?_
                          refine g_aload_n X dX11_lay_147 rfl 0 rfl ?_
                          refine g_get X (AD := A) mm0 (mE_0 cy A σ_61) hin11 rfl 23 (by decide) lk5 (fun _ h9 => h9) rfl dX11_lay_148 ?_
                          refine g_iload X dX11_lay_151 3 rfl ?_
                          obtain ⟨hg_62, h⟩ := grd_some h
                          refine g_iald X (AD := A) mm24 (mE_24 cy A σ_61) 0 rfl hg_62 dX11_lay_153 ?_
                          obtain ⟨hg_63, h⟩ := grd_some h
                          refine g_irem X dX11_lay_154 hg_63 ?_
                          obtain ⟨r_65, σ_66, hf_64, h⟩ := bnd2_some h
                          refine g_callVI (AD := A) (As := [.int r_60, .int (v_48 - v_48 / (gr σ_61 24 c_47.toNatClampNeg) * (gr σ_61 24 c_47.toNatClampNeg))]) X (ZC_ok _ _ _ _ _) (m_X11_makes hf_64) (cwV 2 X.1.2.2.2.2 gX11_lay_X11_makes rfl rfl rfl (by decide +kernel) ⟨Nat.le_of_ble_eq_true rfl, Nat.le_of_ble_eq_true rfl⟩) rfl mm0 (mE_0 cy A σ_61) rfl rfl (Nat.le_of_ble_eq_true rfl) ⟨by decide, by decide⟩ dX11_lay_155 ?_
                          obtain ⟨hg_67, h⟩ := grd_some h
                          refine g_iast X (AD := A) (σ' := sr σ_66 4 (upd (gr σ_66 4) (((800 : Int32) * c_45) + (gr σ_49 6 c_45.toNatClampNeg)).toNatClampNeg r_65)) mm4 (mE_4 cy A σ_66) 0 rfl hg_67 (sm_a4 cy A σ_66 (upd (gr σ_66 4) (((800 : Int32) * c_45) + (gr σ_49 6 c_45.toNatClampNeg)).toNatClampNeg r_65)) dX11_lay_158 ?_
                          obtain ⟨σ_68, e_69, h⟩ := bnd_some h
                          have e_69 := Option.some.inj e_69
                          rw [e_69]
                          refine g_aload_n X dX11_lay_159 rfl 0 rfl ?_
                          refine g_get X (AD := A) mm0 (mE_0 cy A σ_68) hin11 rfl 5 (by decide) lk2 (fun _ h9 => h9) rfl dX11_lay_160 ?_
                          refine g_iload_n X dX11_lay_163 rfl 1 rfl ?_
                          refine g_dup2 X dX11_lay_164 rfl rfl ?_
                          obtain ⟨hg_70, h⟩ := grd_some h
                          refine g_iald X (AD := A) mm6 (mE_6 cy A σ_68) 0 rfl hg_70 dX11_lay_165 ?_
                          refine g_iconst X dX11_lay_166 (v := (1 : Int32)) (by decide) ?_
                          refine g_iadd X dX11_lay_167 ?_
                          obtain ⟨hg_71, h⟩ := grd_some h
                          refine g_iast X (AD := A) (σ' := sr σ_68 6 (upd (gr σ_68 6) c_45.toNatClampNeg ((gr σ_68 6 c_45.toNatClampNeg) + (1 : Int32)))) mm6 (mE_6 cy A σ_68) 0 rfl hg_71 (sm_a6 cy A σ_68 (upd (gr σ_68 6) c_45.toNatClampNeg ((gr σ_68 6 c_45.toNatClampNeg) + (1 : Int32)))) dX11_lay_168 ?_
                          obtain ⟨σ_72, e_73, h⟩ := bnd_some h
                          have e_73 := Option.some.inj e_73
                          rw [e_73]
                          refine g_iinc X dX11_lay_169 4 rfl (v := v_48 + (1 : Int32)) rfl (by decide) (lv' := [(5, .int (v_48 + (1 : Int32))), (0, .ref (A 0)), (1, .int c_45), (3, .int c_46), (4, .int c_47)]) rfl ?_
                          refine g_goto X (tgt := 108) dX11_lay_172 (by decide) ?_
                          exact g_sub [1, 2, 3, 4, 0] rfl (ih_51 _ _ _ h K_52)
                    obtain ⟨σ_55, hl_74, h⟩ := bnd_some h
                    refine g_sub [1, 2, 3, 4, 0] rfl (L_54 c_34 c_35 v_36 FU (0 : Int32) σ_37 σ_55 hl_74 ?_)
                    refine g_iinc X dX11_lay_175 3 rfl (v := v_36 + (1 : Int32)) rfl (by decide) (lv' := [(4, .int (v_36 + (1 : Int32))), (0, .ref (A 0)), (1, .int c_34), (3, .int c_35)]) rfl ?_
                    refine g_goto X (tgt := 96) dX11_lay_178 (by decide) ?_
                    exact g_sub [1, 2, 3, 0] rfl (ih_39 _ _ _ h K_40)
              obtain ⟨σ_43, hl_75, h⟩ := bnd_some h
              refine g_sub [1, 2, 4, 0] rfl (L_42 a1 o_20 FU (0 : Int32) σ_6 σ_43 hl_75 ?_)
              refine g_aload_n X dX11_lay_181 rfl 0 rfl ?_
              refine g_iload_n X dX11_lay_182 rfl 1 rfl ?_
              obtain ⟨r_77, σ_78, hf_76, h⟩ := bnd2_some h
              refine g_callVI (AD := A) (As := [.int o_20]) X (ZC_ok _ _ _ _ _) (m_X11_told hf_76) (cwV 1 X.1.2.2.2.2 gX11_lay_X11_told rfl rfl rfl (by decide +kernel) ⟨Nat.le_of_ble_eq_true rfl, Nat.le_of_ble_eq_true rfl⟩) rfl mm0 (mE_0 cy A σ_43) rfl rfl (Nat.le_of_ble_eq_true rfl) ⟨by decide, by decide⟩ dX11_lay_183 ?_
              cases h
              exact g_iret (Wf := mW cy A X9) X ⟨rfl, rfl⟩ dX11_lay_186
            · have h := iff_ hc_33 h
              refine g_aload_n X dX11_lay_87 rfl 0 rfl ?_
              refine g_iconst X dX11_lay_88 (v := (2 : Int32)) (by decide) ?_
              obtain ⟨r_80, σ_81, hf_79, h⟩ := bnd2_some h
              refine g_callVI (AD := A) (As := [.int (2 : Int32)]) X (ZC_ok _ _ _ _ _) (m_X11_refuse hf_79) (cwV 1 X.1.2.2.2.2 gX11_lay_X11_refuse rfl rfl rfl (by decide +kernel) ⟨Nat.le_of_ble_eq_true rfl, Nat.le_of_ble_eq_true rfl⟩) rfl mm0 (mE_0 cy A σ_6) rfl rfl (Nat.le_of_ble_eq_true rfl) ⟨by decide, by decide⟩ dX11_lay_89 ?_
              cases h
              exact g_iret (Wf := mW cy A X9) X ⟨rfl, rfl⟩ dX11_lay_92
      have h := hj_82
      clear hj_82
      refine g_icmp_ne X (tgt := 25) dX11_lay_18 (by decide) (fun hc_7 => ?_) (fun hc_7 => ?_)
      · have h := iff_ hc_7 h
        refine g_iconst X dX11_lay_25 (v := (0 : Int32)) (by decide) ?_
        cases h
        exact g_sub [0, 1] rfl K_9
      · have h := ift hc_7 h
        refine g_iconst X dX11_lay_21 (v := (1 : Int32)) (by decide) ?_
        refine g_goto X (tgt := 26) dX11_lay_22 (by decide) ?_
        cases h
        exact g_sub [0, 1] rfl K_9
    · have h := ift hc_3 h
      refine g_aload_n X dX11_lay_7 rfl 0 rfl ?_
      refine g_iconst X dX11_lay_8 (v := (1 : Int32)) (by decide) ?_
      obtain ⟨r_84, σ_85, hf_83, h⟩ := bnd2_some h
      refine g_callVI (AD := A) (As := [.int (1 : Int32)]) X (ZC_ok _ _ _ _ _) (m_X11_refuse hf_83) (cwV 1 X.1.2.2.2.2 gX11_lay_X11_refuse rfl rfl rfl (by decide +kernel) ⟨Nat.le_of_ble_eq_true rfl, Nat.le_of_ble_eq_true rfl⟩) rfl mm0 (mE_0 cy A σ) rfl rfl (Nat.le_of_ble_eq_true rfl) ⟨by decide, by decide⟩ dX11_lay_9 ?_
      cases h
      exact g_iret (Wf := mW cy A X9) X ⟨rfl, rfl⟩ dX11_lay_12
  exact K0
end MV
