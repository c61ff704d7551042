section MV
variable {D : va_G} {cy : Nat → ClassId} {A aK aO aS aV aT : Nat → Nat} {l : Launch} {X9 : va_W}
set_option maxHeartbeats 8000000 in
set_option maxRecDepth 100000 in
theorem m_X5_readText {σ : St} {r : Int32} {σ' : St} (h : f_X5_readText σ = some (r, σ')) : mI (ZC aK aO aS aV aT) D (cyT cy) l yX5_readText wsX5_readText ({ frames := 10, cells := 0, slots := 0, locals := 267 } : Room) (cW cy A aK X9) [.ref (A 12)] σ r σ' := by
  unfold f_X5_readText at h
  refine mI_of (cc := cX5_readText) (maxL := 1) (ret := (some .int)) (by decide) rfl (Nat.le_of_ble_eq_true rfl) (fun p e s m args below meth c B X => ?_)
  have hin5 : ∀ w ∈ wsX50, w ∈ wsX5_readText := by decide +kernel
  have hin9 : ∀ w ∈ wsX90, w ∈ wsX5_readText := by decide +kernel
  have lk0 : Cond.fieldLink RX5 22 "Cardcabinet$Parser" "runCount" "I" ∈ wsX5_readText := by decide +kernel
  have lk1 : Cond.fieldLink RX5 17 "Cardcabinet$Parser" "text" "LCardcabinet$Text;" ∈ wsX5_readText := by decide +kernel
  have lk2 : Cond.fieldLink RX5 11 "Cardcabinet$Parser" "runList" "[LCardcabinet$Run;" ∈ wsX5_readText := by decide +kernel
  have lk3 : Cond.fieldLink RX5 39 "Cardcabinet$Text" "tokenStart" "I" ∈ wsX5_readText := by decide +kernel
  have K0 : gG p l e ({ frames := 10, cells := 0, slots := 0, locals := 267 } : Room) s m args below meth c D (cyT cy) B 1 (eI D (cyT cy) (cW cy A aK X9) B below args s r σ') (cW cy A aK X9 σ) 0 0 0 [(0, .ref (A 12))] [] := by
    refine g_aload_n X dX5_readText_0 rfl 0 rfl ?_
    refine g_iconst X dX5_readText_1 (v := (0 : Int32)) (by decide) ?_
    refine g_put X (AD := A) (ty := .int) (v := .int (0 : Int32)) (σ' := si σ 98 (0 : Int32)) cm12 (cE_12 cy A aK σ) hin5 rfl tyX5 tyX5_ok nmX5 2 (by decide) lk0 (fun _ h9 => h9) rfl (by decide +kernel) rfl rfl (Nat.le_of_ble_eq_true rfl) (sf_c98 cy A aK σ (0 : Int32)) dX5_readText_2 ?_
    refine g_aload_n X dX5_readText_5 rfl 0 rfl ?_
    refine g_get X (AD := A) cm12 (cE_12 cy A aK (si σ 98 (0 : Int32))) hin5 rfl 0 (by decide) lk1 (fun _ h9 => h9) rfl dX5_readText_6 ?_
    obtain ⟨σ_2, hf_1, h⟩ := bnd_some h
    refine g_callVV (AD := A) (As := []) X (ZC_ok _ _ _ _ _) (m_X9_toFirstToken hf_1) (cwV 0 X.1.2.2.2.2 gX5_readText_X9_toFirstToken rfl rfl rfl (by decide +kernel) ⟨Nat.le_of_ble_eq_true rfl, Nat.le_of_ble_eq_true rfl⟩) rfl cm10 (cE_10 cy A aK (si σ 98 (0 : Int32))) rfl rfl (Nat.le_of_ble_eq_true rfl) ⟨Nat.zero_le _, Nat.zero_le _⟩ dX5_readText_9 ?_
    have L_8 : ∀ (n_4 : Nat) (σ_3 : St) (o_19 : (Int32 × St) ⊕ (St)), f_X5_readText_L12 n_4 σ_3 = some o_19 → (∀ (σ_9 : St), o_19 = .inr (σ_9) → gG p l e ({ frames := 10, cells := 0, slots := 0, locals := 267 } : Room) s m args below meth c D (cyT cy) B 1 (eI D (cyT cy) (cW cy A aK X9) B below args s r σ') (cW cy A aK X9 σ_9) 0 0 68 [] []) → (∀ r8, o_19 = .inl r8 → r8 = (r, σ')) → gG p l e ({ frames := 10, cells := 0, slots := 0, locals := 267 } : Room) s m args below meth c D (cyT cy) B 1 (eI D (cyT cy) (cW cy A aK X9) B below args s r σ') (cW cy A aK X9 σ_3) 0 0 12 [(0, .ref (A 12))] [] := by
      intro n_4
      induction n_4 with
      | zero =>
        intro σ_3 o_19 h K_6 K_7
        rw [f_X5_readText_L12] at h
        cases h
      | succ n_4 ih_5 =>
        intro σ_3 o_19 h K_6 K_7
        rw [f_X5_readText_L12] at h
        refine g_aload_n X dX5_readText_12 rfl 0 rfl ?_
        refine g_get X (AD := A) cm12 (cE_12 cy A aK σ_3) hin5 rfl 0 (by decide) lk1 (fun _ h9 => h9) rfl dX5_readText_13 ?_
        obtain ⟨r_11, hf_10, h⟩ := bnd_some h
        refine g_callVI (AD := A) (As := []) X (ZC_ok _ _ _ _ _) (m_X9_isAtEnd hf_10) (cwV 0 X.1.2.2.2.2 gX5_readText_X9_isAtEnd rfl rfl rfl (by decide +kernel) ⟨Nat.le_of_ble_eq_true rfl, Nat.le_of_ble_eq_true rfl⟩) rfl cm10 (cE_10 cy A aK σ_3) rfl rfl (Nat.le_of_ble_eq_true rfl) ⟨Nat.zero_le _, Nat.zero_le _⟩ dX5_readText_16 ?_
        refine g_if_ne X (tgt := 68) dX5_readText_19 (by decide) (fun hc_12 => ?_) (fun hc_12 => ?_)
        · have h := iff_ hc_12 h
          cases h
          exact g_sub [] rfl (K_6 _ rfl)
        · have h := ift hc_12 h
          refine g_aload_n X dX5_readText_22 rfl 0 rfl ?_
          refine g_get X (AD := A) cm12 (cE_12 cy A aK σ_3) hin5 rfl 2 (by decide) lk0 (fun _ h9 => h9) rfl dX5_readText_23 ?_
          refine g_bipush X dX5_readText_26 (v := (50 : Int32)) (by decide) ?_
          refine g_icmp_ge X (tgt := 68) dX5_readText_28 (by decide) (fun hc_13 => ?_) (fun hc_13 => ?_)
          · have h := ift hc_13 h
            cases h
            exact g_sub [] rfl (K_6 _ rfl)
          · have h := iff_ hc_13 h
            refine g_aload_n X dX5_readText_31 rfl 0 rfl ?_
            refine g_aload_n X dX5_readText_32 rfl 0 rfl ?_
            refine g_get X (AD := A) cm12 (cE_12 cy A aK σ_3) hin5 rfl 1 (by decide) lk2 (fun _ h9 => h9) rfl dX5_readText_33 ?_
            refine g_aload_n X dX5_readText_36 rfl 0 rfl ?_
            refine g_get X (AD := A) cm12 (cE_12 cy A aK σ_3) hin5 rfl 2 (by decide) lk0 (fun _ h9 => h9) rfl dX5_readText_37 ?_
            obtain ⟨hg_14, h⟩ := grd_some h
            refine g_aald X (AD := A) cm13 (cE_13 cy A aK σ_3) 4 rfl hg_14 (v := .ref (A (64 + (gi σ_3 98).toNatClampNeg))) rfl dX5_readText_40 ?_
            obtain ⟨r_16, σ_17, hf_15, h⟩ := bnd2_some h
            refine g_callVI (AD := A) (As := [.ref (A (64 + (gi σ_3 98).toNatClampNeg))]) X (ZC_ok _ _ _ _ _) (m_X5_readRun (isRun_r hg_14) hf_15) (cwV 1 X.1.2.2.2.2 gX5_readText_X5_readRun rfl rfl rfl (by decide +kernel) ⟨Nat.le_of_ble_eq_true rfl, Nat.le_of_ble_eq_true rfl⟩) rfl cm12 (cE_12 cy A aK σ_3) rfl rfl (Nat.le_of_ble_eq_true rfl) ⟨Nat.zero_le _, Nat.zero_le _⟩ dX5_readText_41 ?_
            refine g_if_ne X (tgt := 55) dX5_readText_44 (by decide) (fun hc_18 => ?_) (fun hc_18 => ?_)
            · have h := iff_ hc_18 h
              refine g_aload_n X dX5_readText_55 rfl 0 rfl ?_
              refine g_dup X dX5_readText_56 rfl ?_
              refine g_get X (AD := A) cm12 (cE_12 cy A aK σ_17) hin5 rfl 2 (by decide) lk0 (fun _ h9 => h9) rfl dX5_readText_57 ?_
              refine g_iconst X dX5_readText_60 (v := (1 : Int32)) (by decide) ?_
              refine g_iadd X dX5_readText_61 ?_
              refine g_put X (AD := A) (ty := .int) (v := .int ((gi σ_17 98) + (1 : Int32))) (σ' := si σ_17 98 ((gi σ_17 98) + (1 : Int32))) cm12 (cE_12 cy A aK σ_17) hin5 rfl tyX5 tyX5_ok nmX5 2 (by decide) lk0 (fun _ h9 => h9) rfl (by decide +kernel) rfl rfl (Nat.le_of_ble_eq_true rfl) (sf_c98 cy A aK σ_17 ((gi σ_17 98) + (1 : Int32))) dX5_readText_62 ?_
              refine g_goto X (tgt := 12) dX5_readText_65 (by decide) ?_
              exact g_sub [0] rfl (ih_5 _ _ h K_6 K_7)
            · have h := ift hc_18 h
              refine g_aload_n X dX5_readText_47 rfl 0 rfl ?_
              refine g_get X (AD := A) cm12 (cE_12 cy A aK σ_17) hin5 rfl 0 (by decide) lk1 (fun _ h9 => h9) rfl dX5_readText_48 ?_
              refine g_get X (AD := A) cm10 (cE_10 cy A aK σ_17) hin9 rfl 2 (by decide) lk3 (fun _ h9 => h9) rfl dX5_readText_51 ?_
              cases h
              cases K_7 _ rfl
              exact g_iret (Wf := cW cy A aK X9) X ⟨rfl, rfl⟩ dX5_readText_54
    rcases bndR_some h with ⟨r9, hl_20, he9⟩ | ⟨o9, hl_20, h⟩
    · exact g_sub [0] rfl (L_8 FU σ_2 (.inl r9) hl_20 (fun σ_9 e9 => nomatch e9) (fun r8 e9 => by cases e9; exact he9))
    · obtain ⟨σ_9, rfl⟩ : ∃ z, z = o9 := ⟨_, rfl⟩
      refine g_sub [0] rfl (L_8 FU σ_2 (.inr σ_9) hl_20 (fun σ_9z e9 => ?_) (fun r8 e9 => nomatch e9))
      cases e9
      refine g_iconst X dX5_readText_68 (v := (-1 : Int32)) (by decide) ?_
      cases h
      exact g_iret (Wf := cW cy A aK X9) X ⟨rfl, rfl⟩ dX5_readText_69
  exact K0
set_option maxHeartbeats 8000000 in
set_option maxRecDepth 100000 in
theorem m_X5_cardsOfAllRuns {σ : St} {r : Int32} (h : f_X5_cardsOfAllRuns σ = some r) : mI (ZC aK aO aS aV aT) D (cyT cy) l yX5_cardsOfAllRuns wsX5_cardsOfAllRuns ({ frames := 0, cells := 0, slots := 0, locals := 0 } : Room) (cW cy A aK X9) [.ref (A 12)] σ r σ := by
  unfold f_X5_cardsOfAllRuns at h
  refine mI_of (cc := cX5_cardsOfAllRuns) (maxL := 3) (ret := (some .int)) (by decide) rfl (Nat.le_of_ble_eq_true rfl) (fun p e s m args below meth c B X => ?_)
  have hin5 : ∀ w ∈ wsX50, w ∈ wsX5_cardsOfAllRuns := by decide +kernel
  have hin7 : ∀ w ∈ wsX70, w ∈ wsX5_cardsOfAllRuns := by decide +kernel
  have lk0 : Cond.fieldLink RX5 22 "Cardcabinet$Parser" "runCount" "I" ∈ wsX5_cardsOfAllRuns := by decide +kernel
  have lk1 : Cond.fieldLink RX5 11 "Cardcabinet$Parser" "runList" "[LCardcabinet$Run;" ∈ wsX5_cardsOfAllRuns := by decide +kernel
  have lk2 : Cond.fieldLink RX5 42 "Cardcabinet$Run" "cards" "I" ∈ wsX5_cardsOfAllRuns := by decide +kernel
  have K0 : gG p l e ({ frames := 0, cells := 0, slots := 0, locals := 0 } : Room) s m args below meth c D (cyT cy) B 3 (eI D (cyT cy) (cW cy A aK X9) B below args s r σ) (cW cy A aK X9 σ) 0 0 0 [(0, .ref (A 12))] [] := by
    refine g_iconst X dX5_cardsOfAllRuns_0 (v := (0 : Int32)) (by decide) ?_
    refine g_istore_n X dX5_cardsOfAllRuns_1 rfl (by decide) (lv' := [(1, .int (0 : Int32)), (0, .ref (A 12))]) rfl ?_
    refine g_iconst X dX5_cardsOfAllRuns_2 (v := (0 : Int32)) (by decide) ?_
    refine g_istore_n X dX5_cardsOfAllRuns_3 rfl (by decide) (lv' := [(2, .int (0 : Int32)), (1, .int (0 : Int32)), (0, .ref (A 12))]) rfl ?_
    have L_8 : ∀ (σ_3 : St) (hq_10 : σ_3 = σ) (n_4 : Nat) (v_1 : Int32) (v_2 : Int32) (o_9 : Int32), f_X5_cardsOfAllRuns_L4 σ_3 n_4 v_1 v_2 = some (o_9) → gG p l e ({ frames := 0, cells := 0, slots := 0, locals := 0 } : Room) s m args below meth c D (cyT cy) B 3 (eI D (cyT cy) (cW cy A aK X9) B below args s r σ) (cW cy A aK X9 σ_3) 0 0 30 [(1, .int o_9)] [] → gG p l e ({ frames := 0, cells := 0, slots := 0, locals := 0 } : Room) s m args below meth c D (cyT cy) B 3 (eI D (cyT cy) (cW cy A aK X9) B below args s r σ) (cW cy A aK X9 σ_3) 0 0 4 [(0, .ref (A 12)), (1, .int v_1), (2, .int v_2)] [] := by
      intro σ_3 hq_10 n_4
      induction n_4 with
      | zero =>
        intro v_1 v_2 o_9 h K_6
        rw [f_X5_cardsOfAllRuns_L4] at h
        cases h
      | succ n_4 ih_5 =>
        intro v_1 v_2 o_9 h K_6
        rw [f_X5_cardsOfAllRuns_L4] at h
        refine g_iload_n X dX5_cardsOfAllRuns_4 rfl 2 rfl ?_
        refine g_aload_n X dX5_cardsOfAllRuns_5 rfl 0 rfl ?_
        refine g_get X (AD := A) cm12 (cE_12 cy A aK σ_3) hin5 rfl 2 (by decide) lk0 (fun _ h9 => h9) rfl dX5_cardsOfAllRuns_6 ?_
        refine g_icmp_ge X (tgt := 30) dX5_cardsOfAllRuns_9 (by decide) (fun hc_11 => ?_) (fun hc_11 => ?_)
        · have h := ift hc_11 h
          cases h
          exact g_sub [1] rfl K_6
        · have h := iff_ hc_11 h
          refine g_iload_n X dX5_cardsOfAllRuns_12 rfl 1 rfl ?_
          refine g_aload_n X dX5_cardsOfAllRuns_13 rfl 0 rfl ?_
          refine g_get X (AD := A) cm12 (cE_12 cy A aK σ_3) hin5 rfl 1 (by decide) lk1 (fun _ h9 => h9) rfl dX5_cardsOfAllRuns_14 ?_
          refine g_iload_n X dX5_cardsOfAllRuns_17 rfl 2 rfl ?_
          obtain ⟨hg_12, h⟩ := grd_some h
          refine g_aald X (AD := A) cm13 (cE_13 cy A aK σ_3) 4 rfl hg_12 (v := .ref (A (64 + v_2.toNatClampNeg))) rfl dX5_cardsOfAllRuns_18 ?_
          refine g_get X (AD := A) ((isRun_r hg_12)).mem (cE_run cy A aK σ_3 (isRun_r hg_12)) hin7 rfl 1 (by decide) lk2 (fun _ h9 => h9) rfl dX5_cardsOfAllRuns_19 ?_
          refine g_iadd X dX5_cardsOfAllRuns_22 ?_
          refine g_istore_n X dX5_cardsOfAllRuns_23 rfl (by decide) (lv' := [(1, .int (v_1 + (gi σ_3 (8 * (64 + v_2.toNatClampNeg) + 1)))), (0, .ref (A 12)), (2, .int v_2)]) rfl ?_
          refine g_iinc X dX5_cardsOfAllRuns_24 2 rfl (v := v_2 + (1 : Int32)) rfl (by decide) (lv' := [(2, .int (v_2 + (1 : Int32))), (1, .int (v_1 + (gi σ_3 (8 * (64 + v_2.toNatClampNeg) + 1)))), (0, .ref (A 12))]) rfl ?_
          refine g_goto X (tgt := 4) dX5_cardsOfAllRuns_27 (by decide) ?_
          exact g_sub [2, 1, 0] rfl (ih_5 _ _ _ h K_6)
    obtain ⟨o_9, hl_13, h⟩ := bnd_some h
    refine g_sub [2, 1, 0] rfl (L_8 σ rfl FU (0 : Int32) (0 : Int32) o_9 hl_13 ?_)
    refine g_iload_n X dX5_cardsOfAllRuns_30 rfl 0 rfl ?_
    cases h
    exact g_iret (Wf := cW cy A aK X9) X ⟨rfl, rfl⟩ dX5_cardsOfAllRuns_31
  exact K0
set_option maxHeartbeats 8000000 in
set_option maxRecDepth 100000 in
theorem m_X6_insert {σ : St} {a0 : Nat} {a1 : Int32} {a2 : Int32} {σ' : St} (h0 : isRow a0) (h : f_X6_insert a0 a1 a2 σ = some σ') : mV (ZC aK aO aS aV aT) D (cyT cy) l yX6_insert wsX6_insert ({ frames := 1, cells := 0, slots := 0, locals := 60 } : Room) (cW cy A aK X9) [.ref (A a0), .int a1, .int a2] σ σ' := by
  unfold f_X6_insert at h
  refine mV_of (cc := cX6_insert) (maxL := 3) (ret := none) (by decide) rfl (Nat.le_of_ble_eq_true rfl) (fun p e s m args below meth c B X => ?_)
  have hin6 : ∀ w ∈ wsX60, w ∈ wsX6_insert := by decide +kernel
  have lk0 : Cond.fieldLink RX6 15 "Cardcabinet$Row" "size" "I" ∈ wsX6_insert := by decide +kernel
  have lk1 : Cond.fieldLink RX6 9 "Cardcabinet$Row" "marks" "[I" ∈ wsX6_insert := by decide +kernel
  have lk2 : Cond.methodLink RX6 23 arraycopyName ∈ wsX6_insert := by decide +kernel
  have lk3 : Cond.native arraycopyName ∈ wsX6_insert := by decide +kernel
  have lk4 : Cond.static arraycopyName ∈ wsX6_insert := by decide +kernel
  have lk5 : Cond.initialized "java/lang/System" ∈ wsX6_insert := by decide +kernel
  have K0 : gG p l e ({ frames := 1, cells := 0, slots := 0, locals := 60 } : Room) s m args below meth c D (cyT cy) B 3 (eV D (cyT cy) (cW cy A aK X9) B below args s σ') (cW cy A aK X9 σ) 0 0 0 [(0, .ref (A a0)), (1, .int a1), (2, .int a2)] [] := by
    refine g_aload_n X dX6_insert_0 rfl 0 rfl ?_
    refine g_get X (AD := A) (h0).mem (cE_row cy A aK σ h0) hin6 rfl 1 (by decide) lk0 (fun _ h9 => h9) rfl dX6_insert_1 ?_
    refine g_sipush X dX6_insert_4 (v := (800 : Int32)) (by decide) ?_
    refine g_icmp_ge X (tgt := 22) dX6_insert_7 (by decide) (fun hc_1 => ?_) (fun hc_1 => ?_)
    · have h := ift hc_1 h
      cases h
      exact g_vret (Wf := cW cy A aK X9) X rfl dX6_insert_22
    · have h := iff_ hc_1 h
      refine g_iload_n X dX6_insert_10 rfl 1 rfl ?_
      refine g_if_lt X (tgt := 22) dX6_insert_11 (by decide) (fun hc_2 => ?_) (fun hc_2 => ?_)
      · have h := ift hc_2 h
        cases h
        exact g_vret (Wf := cW cy A aK X9) X rfl dX6_insert_22
      · have h := iff_ hc_2 h
        refine g_iload_n X dX6_insert_14 rfl 1 rfl ?_
        refine g_aload_n X dX6_insert_15 rfl 0 rfl ?_
        refine g_get X (AD := A) (h0).mem (cE_row cy A aK σ h0) hin6 rfl 1 (by decide) lk0 (fun _ h9 => h9) rfl dX6_insert_16 ?_
        refine g_icmp_le X (tgt := 23) dX6_insert_19 (by decide) (fun hc_3 => ?_) (fun hc_3 => ?_)
        · have h := ift hc_3 h
          refine g_aload_n X dX6_insert_23 rfl 0 rfl ?_
          refine g_get X (AD := A) (h0).mem (cE_row cy A aK σ h0) hin6 rfl 0 (by decide) lk1 (fun _ h9 => h9) rfl dX6_insert_24 ?_
          refine g_iload_n X dX6_insert_27 rfl 1 rfl ?_
          refine g_aload_n X dX6_insert_28 rfl 0 rfl ?_
          refine g_get X (AD := A) (h0).mem (cE_row cy A aK σ h0) hin6 rfl 0 (by decide) lk1 (fun _ h9 => h9) rfl dX6_insert_29 ?_
          refine g_iload_n X dX6_insert_32 rfl 1 rfl ?_
          refine g_iconst X dX6_insert_33 (v := (1 : Int32)) (by decide) ?_
          refine g_iadd X dX6_insert_34 ?_
          refine g_aload_n X dX6_insert_35 rfl 0 rfl ?_
          refine g_get X (AD := A) (h0).mem (cE_row cy A aK σ h0) hin6 rfl 1 (by decide) lk0 (fun _ h9 => h9) rfl dX6_insert_36 ?_
          refine g_iload_n X dX6_insert_39 rfl 1 rfl ?_
          refine g_isub X dX6_insert_40 ?_
          obtain ⟨hg_4, h⟩ := grd_some h
          obtain ⟨hg_5, h⟩ := grd_some h
          obtain ⟨hg_6, h⟩ := grd_some h
          obtain ⟨hg_7, h⟩ := grd_some h
          obtain ⟨hg_8, h⟩ := grd_some h
          refine g_copy X (AD := A) (σ' := sr σ (a0 + 16) (va_cpy (gr σ (a0 + 16)) (gr σ (a0 + 16)) a1.toNatClampNeg (a1 + (1 : Int32)).toNatClampNeg ((gi σ (8 * a0 + 1)) - a1).toNatClampNeg)) lk2 lk3 lk4 lk5 ((isRow.mk h0)).mem ((isRow.mk h0)).mem (cE_mk cy A aK σ (isRow.mk h0)) (cE_mk cy A aK σ (isRow.mk h0)) 0 0 rfl rfl hg_4 hg_5 hg_6 (Nat.le_of_not_lt hg_7) (Nat.le_of_not_lt hg_8) (by decide) (Nat.le_of_ble_eq_true rfl) (st_mk cy A aK σ (va_cpy (gr σ (a0 + 16)) (gr σ (a0 + 16)) a1.toNatClampNeg (a1 + (1 : Int32)).toNatClampNeg ((gi σ (8 * a0 + 1)) - a1).toNatClampNeg) (isRow.mk h0)) dX6_insert_41 ?_
          obtain ⟨σ_9, e_10, h⟩ := bnd_some h
          have e_10 := Option.some.inj e_10
          rw [e_10]
          refine g_aload_n X dX6_insert_44 rfl 0 rfl ?_
          refine g_get X (AD := A) (h0).mem (cE_row cy A aK σ_9 h0) hin6 rfl 0 (by decide) lk1 (fun _ h9 => h9) rfl dX6_insert_45 ?_
          refine g_iload_n X dX6_insert_48 rfl 1 rfl ?_
          refine g_iload_n X dX6_insert_49 rfl 2 rfl ?_
          obtain ⟨hg_11, h⟩ := grd_some h
          refine g_iast X (AD := A) (σ' := sr σ_9 (a0 + 16) (upd (gr σ_9 (a0 + 16)) a1.toNatClampNeg a2)) ((isRow.mk h0)).mem (cE_mk cy A aK σ_9 (isRow.mk h0)) 0 rfl hg_11 (st_mk cy A aK σ_9 (upd (gr σ_9 (a0 + 16)) a1.toNatClampNeg a2) (isRow.mk h0)) dX6_insert_50 ?_
          obtain ⟨σ_12, e_13, h⟩ := bnd_some h
          have e_13 := Option.some.inj e_13
          rw [e_13]
          refine g_aload_n X dX6_insert_51 rfl 0 rfl ?_
          refine g_dup X dX6_insert_52 rfl ?_
          refine g_get X (AD := A) (h0).mem (cE_row cy A aK σ_12 h0) hin6 rfl 1 (by decide) lk0 (fun _ h9 => h9) rfl dX6_insert_53 ?_
          refine g_iconst X dX6_insert_56 (v := (1 : Int32)) (by decide) ?_
          refine g_iadd X dX6_insert_57 ?_
          refine g_put X (AD := A) (ty := .int) (v := .int ((gi σ_12 (8 * a0 + 1)) + (1 : Int32))) (σ' := si σ_12 (8 * a0 + 1) ((gi σ_12 (8 * a0 + 1)) + (1 : Int32))) (h0).mem (cE_row cy A aK σ_12 h0) hin6 rfl tyX6 tyX6_ok nmX6 1 (by decide) lk0 (fun _ h9 => h9) rfl (by decide +kernel) rfl rfl (Nat.le_of_ble_eq_true rfl) (sf_row cy A aK σ_12 ((gi σ_12 (8 * a0 + 1)) + (1 : Int32)) h0) dX6_insert_58 ?_
          obtain ⟨σ_14, e_15, h⟩ := bnd_some h
          have e_15 := Option.some.inj e_15
          rw [e_15]
          cases h
          exact g_vret (Wf := cW cy A aK X9) X rfl dX6_insert_61
        · have h := iff_ hc_3 h
          cases h
          exact g_vret (Wf := cW cy A aK X9) X rfl dX6_insert_22
  exact K0
set_option maxHeartbeats 8000000 in
set_option maxRecDepth 100000 in
theorem m_X6_append {σ : St} {a0 : Nat} {a1 : Int32} {σ' : St} (h0 : isRow a0) (h : f_X6_append a0 a1 σ = some σ') : mV (ZC aK aO aS aV aT) D (cyT cy) l yX6_append wsX6_append ({ frames := 2, cells := 0, slots := 0, locals := 82 } : Room) (cW cy A aK X9) [.ref (A a0), .int a1] σ σ' := by
  unfold f_X6_append at h
  refine mV_of (cc := cX6_append) (maxL := 2) (ret := none) (by decide) rfl (Nat.le_of_ble_eq_true rfl) (fun p e s m args below meth c B X => ?_)
  have hin6 : ∀ w ∈ wsX60, w ∈ wsX6_append := by decide +kernel
  have lk0 : Cond.fieldLink RX6 15 "Cardcabinet$Row" "size" "I" ∈ wsX6_append := by decide +kernel
  have K0 : gG p l e ({ frames := 2, cells := 0, slots := 0, locals := 82 } : Room) s m args below meth c D (cyT cy) B 2 (eV D (cyT cy) (cW cy A aK X9) B below args s σ') (cW cy A aK X9 σ) 0 0 0 [(0, .ref (A a0)), (1, .int a1)] [] := by
    refine g_aload_n X dX6_append_0 rfl 0 rfl ?_
    refine g_aload_n X dX6_append_1 rfl 0 rfl ?_
    refine g_get X (AD := A) (h0).mem (cE_row cy A aK σ h0) hin6 rfl 1 (by decide) lk0 (fun _ h9 => h9) rfl dX6_append_2 ?_
    refine g_iload_n X dX6_append_5 rfl 1 rfl ?_
    obtain ⟨σ_2, hf_1, h⟩ := bnd_some h
    refine g_callVV (AD := A) (As := [.int (gi σ (8 * a0 + 1)), .int a1]) X (ZC_ok _ _ _ _ _) (m_X6_insert h0 hf_1) (cwV 2 X.1.2.2.2.2 gX6_append_X6_insert rfl rfl rfl (by decide +kernel) ⟨Nat.le_of_ble_eq_true rfl, Nat.le_of_ble_eq_true rfl⟩) rfl (h0).mem (cE_row cy A aK σ h0) rfl rfl (Nat.le_of_ble_eq_true rfl) ⟨Nat.zero_le _, Nat.zero_le _⟩ dX6_append_6 ?_
    cases h
    exact g_vret (Wf := cW cy A aK X9) X rfl dX6_append_9
  exact K0
set_option maxHeartbeats 8000000 in
set_option maxRecDepth 100000 in
theorem m_X6_takeOut {σ : St} {a0 : Nat} {a1 : Int32} {r : Int32} {σ' : St} (h0 : isRow a0) (h : f_X6_takeOut a0 a1 σ = some (r, σ')) : mI (ZC aK aO aS aV aT) D (cyT cy) l yX6_takeOut wsX6_takeOut ({ frames := 1, cells := 0, slots := 0, locals := 60 } : Room) (cW cy A aK X9) [.ref (A a0), .int a1] σ r σ' := by
  unfold f_X6_takeOut at h
  refine mI_of (cc := cX6_takeOut) (maxL := 3) (ret := (some .int)) (by decide) rfl (Nat.le_of_ble_eq_true rfl) (fun p e s m args below meth c B X => ?_)
  have hin6 : ∀ w ∈ wsX60, w ∈ wsX6_takeOut := by decide +kernel
  have lk0 : Cond.fieldLink RX6 15 "Cardcabinet$Row" "size" "I" ∈ wsX6_takeOut := by decide +kernel
  have lk1 : Cond.fieldLink RX6 9 "Cardcabinet$Row" "marks" "[I" ∈ wsX6_takeOut := by decide +kernel
  have lk2 : Cond.methodLink RX6 23 arraycopyName ∈ wsX6_takeOut := by decide +kernel
  have lk3 : Cond.native arraycopyName ∈ wsX6_takeOut := by decide +kernel
  have lk4 : Cond.static arraycopyName ∈ wsX6_takeOut := by decide +kernel
  have lk5 : Cond.initialized "java/lang/System" ∈ wsX6_takeOut := by decide +kernel
  have K0 : gG p l e ({ frames := 1, cells := 0, slots := 0, locals := 60 } : Room) s m args below meth c D (cyT cy) B 3 (eI D (cyT cy) (cW cy A aK X9) B below args s r σ') (cW cy A aK X9 σ) 0 0 0 [(0, .ref (A a0)), (1, .int a1)] [] := by
    refine g_iload_n X dX6_takeOut_0 rfl 1 rfl ?_
    refine g_if_lt X (tgt := 12) dX6_takeOut_1 (by decide) (fun hc_1 => ?_) (fun hc_1 => ?_)
    · have h := ift hc_1 h
      refine g_iconst X dX6_takeOut_12 (v := (-1 : Int32)) (by decide) ?_
      cases h
      exact g_iret (Wf := cW cy A aK X9) X ⟨rfl, rfl⟩ dX6_takeOut_13
    · have h := iff_ hc_1 h
      refine g_iload_n X dX6_takeOut_4 rfl 1 rfl ?_
      refine g_aload_n X dX6_takeOut_5 rfl 0 rfl ?_
      refine g_get X (AD := A) (h0).mem (cE_row cy A aK σ h0) hin6 rfl 1 (by decide) lk0 (fun _ h9 => h9) rfl dX6_takeOut_6 ?_
      refine g_icmp_lt X (tgt := 14) dX6_takeOut_9 (by decide) (fun hc_2 => ?_) (fun hc_2 => ?_)
      · have h := ift hc_2 h
        refine g_aload_n X dX6_takeOut_14 rfl 0 rfl ?_
        refine g_get X (AD := A) (h0).mem (cE_row cy A aK σ h0) hin6 rfl 0 (by decide) lk1 (fun _ h9 => h9) rfl dX6_takeOut_15 ?_
        refine g_iload_n X dX6_takeOut_18 rfl 1 rfl ?_
        obtain ⟨hg_3, h⟩ := grd_some h
        refine g_iald X (AD := A) ((isRow.mk h0)).mem (cE_mk cy A aK σ (isRow.mk h0)) 0 rfl hg_3 dX6_takeOut_19 ?_
        refine g_istore_n X dX6_takeOut_20 rfl (by decide) (lv' := [(2, .int (gr σ (a0 + 16) a1.toNatClampNeg)), (0, .ref (A a0)), (1, .int a1)]) rfl ?_
        refine g_aload_n X dX6_takeOut_21 rfl 1 rfl ?_
        refine g_dup X dX6_takeOut_22 rfl ?_
        refine g_get X (AD := A) (h0).mem (cE_row cy A aK σ h0) hin6 rfl 1 (by decide) lk0 (fun _ h9 => h9) rfl dX6_takeOut_23 ?_
        refine g_iconst X dX6_takeOut_26 (v := (1 : Int32)) (by decide) ?_
        refine g_isub X dX6_takeOut_27 ?_
        refine g_put X (AD := A) (ty := .int) (v := .int ((gi σ (8 * a0 + 1)) - (1 : Int32))) (σ' := si σ (8 * a0 + 1) ((gi σ (8 * a0 + 1)) - (1 : Int32))) (h0).mem (cE_row cy A aK σ h0) hin6 rfl tyX6 tyX6_ok nmX6 1 (by decide) lk0 (fun _ h9 => h9) rfl (by decide +kernel) rfl rfl (Nat.le_of_ble_eq_true rfl) (sf_row cy A aK σ ((gi σ (8 * a0 + 1)) - (1 : Int32)) h0) dX6_takeOut_28 ?_
        obtain ⟨σ_4, e_5, h⟩ := bnd_some h
        have e_5 := Option.some.inj e_5
        rw [e_5]
        refine g_aload_n X dX6_takeOut_31 rfl 1 rfl ?_
        refine g_get X (AD := A) (h0).mem (cE_row cy A aK σ_4 h0) hin6 rfl 0 (by decide) lk1 (fun _ h9 => h9) rfl dX6_takeOut_32 ?_
        refine g_iload_n X dX6_takeOut_35 rfl 2 rfl ?_
        refine g_iconst X dX6_takeOut_36 (v := (1 : Int32)) (by decide) ?_
        refine g_iadd X dX6_takeOut_37 ?_
        refine g_aload_n X dX6_takeOut_38 rfl 1 rfl ?_
        refine g_get X (AD := A) (h0).mem (cE_row cy A aK σ_4 h0) hin6 rfl 0 (by decide) lk1 (fun _ h9 => h9) rfl dX6_takeOut_39 ?_
        refine g_iload_n X dX6_takeOut_42 rfl 2 rfl ?_
        refine g_aload_n X dX6_takeOut_43 rfl 1 rfl ?_
        refine g_get X (AD := A) (h0).mem (cE_row cy A aK σ_4 h0) hin6 rfl 1 (by decide) lk0 (fun _ h9 => h9) rfl dX6_takeOut_44 ?_
        refine g_iload_n X dX6_takeOut_47 rfl 2 rfl ?_
        refine g_isub X dX6_takeOut_48 ?_
        obtain ⟨hg_6, h⟩ := grd_some h
        obtain ⟨hg_7, h⟩ := grd_some h
        obtain ⟨hg_8, h⟩ := grd_some h
        obtain ⟨hg_9, h⟩ := grd_some h
        obtain ⟨hg_10, h⟩ := grd_some h
        refine g_copy X (AD := A) (σ' := sr σ_4 (a0 + 16) (va_cpy (gr σ_4 (a0 + 16)) (gr σ_4 (a0 + 16)) (a1 + (1 : Int32)).toNatClampNeg a1.toNatClampNeg ((gi σ_4 (8 * a0 + 1)) - a1).toNatClampNeg)) lk2 lk3 lk4 lk5 ((isRow.mk h0)).mem ((isRow.mk h0)).mem (cE_mk cy A aK σ_4 (isRow.mk h0)) (cE_mk cy A aK σ_4 (isRow.mk h0)) 0 0 rfl rfl hg_6 hg_7 hg_8 (Nat.le_of_not_lt hg_9) (Nat.le_of_not_lt hg_10) (by decide) (Nat.le_of_ble_eq_true rfl) (st_mk cy A aK σ_4 (va_cpy (gr σ_4 (a0 + 16)) (gr σ_4 (a0 + 16)) (a1 + (1 : Int32)).toNatClampNeg a1.toNatClampNeg ((gi σ_4 (8 * a0 + 1)) - a1).toNatClampNeg) (isRow.mk h0)) dX6_takeOut_49 ?_
        obtain ⟨σ_11, e_12, h⟩ := bnd_some h
        have e_12 := Option.some.inj e_12
        rw [e_12]
        refine g_iload_n X dX6_takeOut_52 rfl 0 rfl ?_
        cases h
        exact g_iret (Wf := cW cy A aK X9) X ⟨rfl, rfl⟩ dX6_takeOut_53
      · have h := iff_ hc_2 h
        refine g_iconst X dX6_takeOut_12 (v := (-1 : Int32)) (by decide) ?_
        cases h
        exact g_iret (Wf := cW cy A aK X9) X ⟨rfl, rfl⟩ dX6_takeOut_13
  exact K0
set_option maxHeartbeats 8000000 in
set_option maxRecDepth 100000 in
theorem m_X6_reverse {σ : St} {a0 : Nat} {σ' : St} (h0 : isRow a0) (h : f_X6_reverse a0 σ = some σ') : mV (ZC aK aO aS aV aT) D (cyT cy) l yX6_reverse wsX6_reverse ({ frames := 0, cells := 0, slots := 0, locals := 0 } : Room) (cW cy A aK X9) [.ref (A a0)] σ σ' := by
  unfold f_X6_reverse at h
  refine mV_of (cc := cX6_reverse) (maxL := 3) (ret := none) (by decide) rfl (Nat.le_of_ble_eq_true rfl) (fun p e s m args below meth c B X => ?_)
  have hin6 : ∀ w ∈ wsX60, w ∈ wsX6_reverse := by decide +kernel
  have lk0 : Cond.fieldLink RX6 15 "Cardcabinet$Row" "size" "I" ∈ wsX6_reverse := by decide +kernel
  have lk1 : Cond.fieldLink RX6 9 "Cardcabinet$Row" "marks" "[I" ∈ wsX6_reverse := by decide +kernel
  have K0 : gG p l e ({ frames := 0, cells := 0, slots := 0, locals := 0 } : Room) s m args below meth c D (cyT cy) B 3 (eV D (cyT cy) (cW cy A aK X9) B below args s σ') (cW cy A aK X9 σ) 0 0 0 [(0, .ref (A a0))] [] := by
    refine g_iconst X dX6_reverse_0 (v := (0 : Int32)) (by decide) ?_
    refine g_istore_n X dX6_reverse_1 rfl (by decide) (lv' := [(1, .int (0 : Int32)), (0, .ref (A a0))]) rfl ?_
    have L_9 : ∀ (c_1 : Nat) (hp_2 : isRow c_1) (n_5 : Nat) (v_3 : Int32) (σ_4 : St) (σ_10 : St), f_X6_reverse_L2 c_1 n_5 v_3 σ_4 = some (σ_10) → gG p l e ({ frames := 0, cells := 0, slots := 0, locals := 0 } : Room) s m args below meth c D (cyT cy) B 3 (eV D (cyT cy) (cW cy A aK X9) B below args s σ') (cW cy A aK X9 σ_10) 0 0 58 [] [] → gG p l e ({ frames := 0, cells := 0, slots := 0, locals := 0 } : Room) s m args below meth c D (cyT cy) B 3 (eV D (cyT cy) (cW cy A aK X9) B below args s σ') (cW cy A aK X9 σ_4) 0 0 2 [(0, .ref (A c_1)), (1, .int v_3)] [] := by
      intro c_1 hp_2 n_5
      induction n_5 with
      | zero =>
        intro v_3 σ_4 σ_10 h K_7
        rw [f_X6_reverse_L2] at h
        cases h
      | succ n_5 ih_6 =>
        intro v_3 σ_4 σ_10 h K_7
        rw [f_X6_reverse_L2] at h
        refine g_iload_n X dX6_reverse_2 rfl 1 rfl ?_
        refine g_aload_n X dX6_reverse_3 rfl 0 rfl ?_
        refine g_get X (AD := A) (hp_2).mem (cE_row cy A aK σ_4 hp_2) hin6 rfl 1 (by decide) lk0 (fun _ h9 => h9) rfl dX6_reverse_4 ?_
        refine g_iconst X dX6_reverse_7 (v := (2 : Int32)) (by decide) ?_
        refine g_idiv X dX6_reverse_8 (by decide) ?_
        refine g_icmp_ge X (tgt := 58) dX6_reverse_9 (by decide) (fun hc_11 => ?_) (fun hc_11 => ?_)
        · have h := ift hc_11 h
          cases h
          exact g_sub [] rfl K_7
        · have h := iff_ hc_11 h
          refine g_aload_n X dX6_reverse_12 rfl 0 rfl ?_
          refine g_get X (AD := A) (hp_2).mem (cE_row cy A aK σ_4 hp_2) hin6 rfl 0 (by decide) lk1 (fun _ h9 => h9) rfl dX6_reverse_13 ?_
          refine g_iload_n X dX6_reverse_16 rfl 1 rfl ?_
          obtain ⟨hg_12, h⟩ := grd_some h
          refine g_iald X (AD := A) ((isRow.mk hp_2)).mem (cE_mk cy A aK σ_4 (isRow.mk hp_2)) 0 rfl hg_12 dX6_reverse_17 ?_
          refine g_istore_n X dX6_reverse_18 rfl (by decide) (lv' := [(2, .int (gr σ_4 (c_1 + 16) v_3.toNatClampNeg)), (0, .ref (A c_1)), (1, .int v_3)]) rfl ?_
          refine g_aload_n X dX6_reverse_19 rfl 1 rfl ?_
          refine g_get X (AD := A) (hp_2).mem (cE_row cy A aK σ_4 hp_2) hin6 rfl 0 (by decide) lk1 (fun _ h9 => h9) rfl dX6_reverse_20 ?_
          refine g_iload_n X dX6_reverse_23 rfl 2 rfl ?_
          refine g_aload_n X dX6_reverse_24 rfl 1 rfl ?_
          refine g_get X (AD := A) (hp_2).mem (cE_row cy A aK σ_4 hp_2) hin6 rfl 0 (by decide) lk1 (fun _ h9 => h9) rfl dX6_reverse_25 ?_
          refine g_aload_n X dX6_reverse_28 rfl 1 rfl ?_
          refine g_get X (AD := A) (hp_2).mem (cE_row cy A aK σ_4 hp_2) hin6 rfl 1 (by decide) lk0 (fun _ h9 => h9) rfl dX6_reverse_29 ?_
          refine g_iconst X dX6_reverse_32 (v := (1 : Int32)) (by decide) ?_
          refine g_isub X dX6_reverse_33 ?_
          refine g_iload_n X dX6_reverse_34 rfl 2 rfl ?_
          refine g_isub X dX6_reverse_35 ?_
          obtain ⟨hg_13, h⟩ := grd_some h
          refine g_iald X (AD := A) ((isRow.mk hp_2)).mem (cE_mk cy A aK σ_4 (isRow.mk hp_2)) 0 rfl hg_13 dX6_reverse_36 ?_
          obtain ⟨hg_14, h⟩ := grd_some h
          refine g_iast X (AD := A) (σ' := sr σ_4 (c_1 + 16) (upd (gr σ_4 (c_1 + 16)) v_3.toNatClampNeg (gr σ_4 (c_1 + 16) (((gi σ_4 (8 * c_1 + 1)) - (1 : Int32)) - v_3).toNatClampNeg))) ((isRow.mk hp_2)).mem (cE_mk cy A aK σ_4 (isRow.mk hp_2)) 0 rfl hg_14 (st_mk cy A aK σ_4 (upd (gr σ_4 (c_1 + 16)) v_3.toNatClampNeg (gr σ_4 (c_1 + 16) (((gi σ_4 (8 * c_1 + 1)) - (1 : Int32)) - v_3).toNatClampNeg)) (isRow.mk hp_2)) dX6_reverse_37 ?_
          obtain ⟨σ_15, e_16, h⟩ := bnd_some h
          have e_16 := Option.some.inj e_16
          rw [e_16]
          refine g_aload_n X dX6_reverse_38 rfl 1 rfl ?_
          refine g_get X (AD := A) (hp_2).mem (cE_row cy A aK σ_15 hp_2) hin6 rfl 0 (by decide) lk1 (fun _ h9 => h9) rfl dX6_reverse_39 ?_
          refine g_aload_n X dX6_reverse_42 rfl 1 rfl ?_
          refine g_get X (AD := A) (hp_2).mem (cE_row cy A aK σ_15 hp_2) hin6 rfl 1 (by decide) lk0 (fun _ h9 => h9) rfl dX6_reverse_43 ?_
          refine g_iconst X dX6_reverse_46 (v := (1 : Int32)) (by decide) ?_
          refine g_isub X dX6_reverse_47 ?_
          refine g_iload_n X dX6_reverse_48 rfl 2 rfl ?_
          refine g_isub X dX6_reverse_49 ?_
          refine g_iload_n X dX6_reverse_50 rfl 0 rfl ?_
          obtain ⟨hg_17, h⟩ := grd_some h
          refine g_iast X (AD := A) (σ' := sr σ_15 (c_1 + 16) (upd (gr σ_15 (c_1 + 16)) (((gi σ_15 (8 * c_1 + 1)) - (1 : Int32)) - v_3).toNatClampNeg (gr σ_4 (c_1 + 16) v_3.toNatClampNeg))) ((isRow.mk hp_2)).mem (cE_mk cy A aK σ_15 (isRow.mk hp_2)) 0 rfl hg_17 (st_mk cy A aK σ_15 (upd (gr σ_15 (c_1 + 16)) (((gi σ_15 (8 * c_1 + 1)) - (1 : Int32)) - v_3).toNatClampNeg (gr σ_4 (c_1 + 16) v_3.toNatClampNeg)) (isRow.mk hp_2)) dX6_reverse_51 ?_
          obtain ⟨σ_18, e_19, h⟩ := bnd_some h
          have e_19 := Option.some.inj e_19
          rw [e_19]
          refine g_iinc X dX6_reverse_52 2 rfl (v := v_3 + (1 : Int32)) rfl (by decide) (lv' := [(1, .int (v_3 + (1 : Int32))), (2, .int (gr σ_4 (c_1 + 16) v_3.toNatClampNeg)), (0, .ref (A c_1))]) rfl ?_
          refine g_goto X (tgt := 2) dX6_reverse_55 (by decide) ?_
          exact g_sub [2, 0] rfl (ih_6 _ _ _ h K_7)
    obtain ⟨σ_10, hl_20, h⟩ := bnd_some h
    refine g_sub [1, 0] rfl (L_9 a0 h0 FU (0 : Int32) σ σ_10 hl_20 ?_)
    cases h
    exact g_vret (Wf := cW cy A aK X9) X rfl dX6_reverse_58
  exact K0
set_option maxHeartbeats 8000000 in
set_option maxRecDepth 100000 in
theorem m_X6_become {σ : St} {a0 : Nat} {a1 : Nat} {r : Int32} {σ' : St} (h0 : isRow a0) (h1 : isRow a1) (h : f_X6_become a0 a1 σ = some (r, σ')) : mI (ZC aK aO aS aV aT) D (cyT cy) l yX6_become wsX6_become ({ frames := 1, cells := 0, slots := 0, locals := 60 } : Room) (cW cy A aK X9) [.ref (A a0), .ref (A a1)] σ r σ' := by
  unfold f_X6_become at h
  refine mI_of (cc := cX6_become) (maxL := 5) (ret := (some .int)) (by decide) rfl (Nat.le_of_ble_eq_true rfl) (fun p e s m args below meth c B X => ?_)
  have hin6 : ∀ w ∈ wsX60, w ∈ wsX6_become := by decide +kernel
  have lk0 : Cond.fieldLink RX6 15 "Cardcabinet$Row" "size" "I" ∈ wsX6_become := by decide +kernel
  have lk1 : Cond.methodLink RX6 29 Lib.Math.min.name ∈ wsX6_become := by decide +kernel
  have lk2 : Cond.static Lib.Math.min.name ∈ wsX6_become := by decide +kernel
  have lk3 : Cond.initialized "java/lang/Math" ∈ wsX6_become := by decide +kernel
  have lk4 : Cond.code Lib.Math.min.name Lib.Math.min.code 2 (some .int) ∈ wsX6_become := by decide +kernel
  have lk5 : Cond.methodLink RX6 35 Lib.Math.max.name ∈ wsX6_become := by decide +kernel
  have lk6 : Cond.static Lib.Math.max.name ∈ wsX6_become := by decide +kernel
  have lk7 : Cond.code Lib.Math.max.name Lib.Math.max.code 2 (some .int) ∈ wsX6_become := by decide +kernel
  have lk8 : Cond.fieldLink RX6 9 "Cardcabinet$Row" "marks" "[I" ∈ wsX6_become := by decide +kernel
  have lk9 : Cond.methodLink RX6 23 arraycopyName ∈ wsX6_become := by decide +kernel
  have lk10 : Cond.native arraycopyName ∈ wsX6_become := by decide +kernel
  have lk11 : Cond.static arraycopyName ∈ wsX6_become := by decide +kernel
  have lk12 : Cond.initialized "java/lang/System" ∈ wsX6_become := by decide +kernel
  have K0 : gG p l e ({ frames := 1, cells := 0, slots := 0, locals := 60 } : Room) s m args below meth c D (cyT cy) B 5 (eI D (cyT cy) (cW cy A aK X9) B below args s r σ') (cW cy A aK X9 σ) 0 0 0 [(0, .ref (A a0)), (1, .ref (A a1))] [] := by
    refine g_aload_n X dX6_become_0 rfl 0 rfl ?_
    refine g_get X (AD := A) (h0).mem (cE_row cy A aK σ h0) hin6 rfl 1 (by decide) lk0 (fun _ h9 => h9) rfl dX6_become_1 ?_
    refine g_aload_n X dX6_become_4 rfl 1 rfl ?_
    refine g_get X (AD := A) (h1).mem (cE_row cy A aK σ h1) hin6 rfl 1 (by decide) lk0 (fun _ h9 => h9) rfl dX6_become_5 ?_
    refine g_min X lk1 lk2 lk3 lk4 (Nat.le_of_ble_eq_true rfl) (Nat.le_of_ble_eq_true rfl) ⟨Nat.zero_le _, Nat.zero_le _⟩ dX6_become_8 ?_
    refine g_istore_n X dX6_become_11 rfl (by decide) (lv' := [(2, .int (if (gi σ (8 * a1 + 1)) < (gi σ (8 * a0 + 1)) then (gi σ (8 * a1 + 1)) else (gi σ (8 * a0 + 1)))), (0, .ref (A a0)), (1, .ref (A a1))]) rfl ?_
    refine g_aload_n X dX6_become_12 rfl 1 rfl ?_
    refine g_get X (AD := A) (h0).mem (cE_row cy A aK σ h0) hin6 rfl 1 (by decide) lk0 (fun _ h9 => h9) rfl dX6_become_13 ?_
    refine g_aload_n X dX6_become_16 rfl 2 rfl ?_
    refine g_get X (AD := A) (h1).mem (cE_row cy A aK σ h1) hin6 rfl 1 (by decide) lk0 (fun _ h9 => h9) rfl dX6_become_17 ?_
    refine g_max X lk5 lk6 lk3 lk7 (Nat.le_of_ble_eq_true rfl) (Nat.le_of_ble_eq_true rfl) ⟨Nat.zero_le _, Nat.zero_le _⟩ dX6_become_20 ?_
    refine g_iload_n X dX6_become_23 rfl 0 rfl ?_
    refine g_isub X dX6_become_24 ?_
    refine g_istore_n X dX6_become_25 rfl (by decide) (lv' := [(3, .int ((if (gi σ (8 * a0 + 1)) < (gi σ (8 * a1 + 1)) then (gi σ (8 * a1 + 1)) else (gi σ (8 * a0 + 1))) - (if (gi σ (8 * a1 + 1)) < (gi σ (8 * a0 + 1)) then (gi σ (8 * a1 + 1)) else (gi σ (8 * a0 + 1))))), (2, .int (if (gi σ (8 * a1 + 1)) < (gi σ (8 * a0 + 1)) then (gi σ (8 * a1 + 1)) else (gi σ (8 * a0 + 1)))), (0, .ref (A a0)), (1, .ref (A a1))]) rfl ?_
    refine g_iconst X dX6_become_26 (v := (0 : Int32)) (by decide) ?_
    refine g_istore X dX6_become_27 (by decide) (lv' := [(4, .int (0 : Int32)), (3, .int ((if (gi σ (8 * a0 + 1)) < (gi σ (8 * a1 + 1)) then (gi σ (8 * a1 + 1)) else (gi σ (8 * a0 + 1))) - (if (gi σ (8 * a1 + 1)) < (gi σ (8 * a0 + 1)) then (gi σ (8 * a1 + 1)) else (gi σ (8 * a0 + 1))))), (2, .int (if (gi σ (8 * a1 + 1)) < (gi σ (8 * a0 + 1)) then (gi σ (8 * a1 + 1)) else (gi σ (8 * a0 + 1)))), (0, .ref (A a0)), (1, .ref (A a1))]) rfl ?_
    have L_13 : ∀ (c_1 : Nat) (hp_2 : isRow c_1) (c_3 : Nat) (hp_4 : isRow c_3) (c_5 : Int32) (σ_8 : St) (n_9 : Nat) (v_6 : Int32) (v_7 : Int32) (o_14 : Int32), f_X6_become_L29 c_1 c_3 c_5 σ_8 n_9 v_6 v_7 = some (o_14) → gG p l e ({ frames := 1, cells := 0, slots := 0, locals := 60 } : Room) s m args below meth c D (cyT cy) B 5 (eI D (cyT cy) (cW cy A aK X9) B below args s r σ') (cW cy A aK X9 σ_8) 0 0 61 [(0, .ref (A c_1)), (1, .ref (A c_3)), (3, .int o_14)] [] → gG p l e ({ frames := 1, cells := 0, slots := 0, locals := 60 } : Room) s m args below meth c D (cyT cy) B 5 (eI D (cyT cy) (cW cy A aK X9) B below args s r σ') (cW cy A aK X9 σ_8) 0 0 29 [(0, .ref (A c_1)), (1, .ref (A c_3)), (2, .int c_5), (3, .int v_6), (4, .int v_7)] [] := by
      intro c_1 hp_2 c_3 hp_4 c_5 σ_8 n_9
      induction n_9 with
      | zero =>
        intro v_6 v_7 o_14 h K_11
        rw [f_X6_become_L29] at h
        cases h
      | succ n_9 ih_10 =>
        intro v_6 v_7 o_14 h K_11
        rw [f_X6_become_L29] at h
        refine g_iload X dX6_become_29 4 rfl ?_
        refine g_iload_n X dX6_become_31 rfl 2 rfl ?_
        refine g_icmp_ge X (tgt := 61) dX6_become_32 (by decide) (fun hc_15 => ?_) (fun hc_15 => ?_)
        · have h := ift hc_15 h
          cases h
          exact g_sub [0, 1, 3] rfl K_11
        · have h := iff_ hc_15 h
          refine g_aload_n X dX6_become_35 rfl 0 rfl ?_
          refine g_get X (AD := A) (hp_2).mem (cE_row cy A aK σ_8 hp_2) hin6 rfl 0 (by decide) lk8 (fun _ h9 => h9) rfl dX6_become_36 ?_
          refine g_iload X dX6_become_39 4 rfl ?_
          obtain ⟨hg_16, h⟩ := grd_some h
          refine g_iald X (AD := A) ((isRow.mk hp_2)).mem (cE_mk cy A aK σ_8 (isRow.mk hp_2)) 0 rfl hg_16 dX6_become_41 ?_
          refine g_aload_n X dX6_become_42 rfl 1 rfl ?_
          refine g_get X (AD := A) (hp_4).mem (cE_row cy A aK σ_8 hp_4) hin6 rfl 0 (by decide) lk8 (fun _ h9 => h9) rfl dX6_become_43 ?_
          refine g_iload X dX6_become_46 4 rfl ?_
          obtain ⟨hg_17, h⟩ := grd_some h
          refine g_iald X (AD := A) ((isRow.mk hp_4)).mem (cE_mk cy A aK σ_8 (isRow.mk hp_4)) 0 rfl hg_17 dX6_become_48 ?_
          obtain ⟨v_19, hj_21, h⟩ := bnd_some h
          have K_20 : gG p l e ({ frames := 1, cells := 0, slots := 0, locals := 60 } : Room) s m args below meth c D (cyT cy) B 5 (eI D (cyT cy) (cW cy A aK X9) B below args s r σ') (cW cy A aK X9 σ_8) 0 0 55 [(0, .ref (A c_1)), (1, .ref (A c_3)), (2, .int c_5), (3, .int v_19), (4, .int v_7)] [] := by
            refine g_iinc X dX6_become_55 4 rfl (v := v_7 + (1 : Int32)) rfl (by decide) (lv' := [(4, .int (v_7 + (1 : Int32))), (0, .ref (A c_1)), (1, .ref (A c_3)), (2, .int c_5), (3, .int v_19)]) rfl ?_
            refine g_goto X (tgt := 29) dX6_become_58 (by decide) ?_
            exact g_sub [1, 2, 3, 4, 0] rfl (ih_10 _ _ _ h K_11)
          have h := hj_21
          clear hj_21
          refine g_icmp_eq X (tgt := 55) dX6_become_49 (by decide) (fun hc_18 => ?_) (fun hc_18 => ?_)
          · have h := ift hc_18 h
            cases h
            exact g_sub [0, 1, 2, 3, 4] rfl K_20
          · have h := iff_ hc_18 h
            refine g_iinc X dX6_become_52 3 rfl (v := v_6 + (1 : Int32)) rfl (by decide) (lv' := [(3, .int (v_6 + (1 : Int32))), (0, .ref (A c_1)), (1, .ref (A c_3)), (2, .int c_5), (4, .int v_7)]) rfl ?_
            cases h
            exact g_sub [1, 2, 3, 0, 4] rfl K_20
    obtain ⟨o_14, hl_22, h⟩ := bnd_some h
    refine g_sub [3, 4, 2, 1, 0] rfl (L_13 a0 h0 a1 h1 (if (gi σ (8 * a1 + 1)) < (gi σ (8 * a0 + 1)) then (gi σ (8 * a1 + 1)) else (gi σ (8 * a0 + 1))) σ FU ((if (gi σ (8 * a0 + 1)) < (gi σ (8 * a1 + 1)) then (gi σ (8 * a1 + 1)) else (gi σ (8 * a0 + 1))) - (if (gi σ (8 * a1 + 1)) < (gi σ (8 * a0 + 1)) then (gi σ (8 * a1 + 1)) else (gi σ (8 * a0 + 1)))) (0 : Int32) o_14 hl_22 ?_)
    refine g_aload_n X dX6_become_61 rfl 1 rfl ?_
    refine g_get X (AD := A) (h1).mem (cE_row cy A aK σ h1) hin6 rfl 0 (by decide) lk8 (fun _ h9 => h9) rfl dX6_become_62 ?_
    refine g_iconst X dX6_become_65 (v := (0 : Int32)) (by decide) ?_
    refine g_aload_n X dX6_become_66 rfl 0 rfl ?_
    refine g_get X (AD := A) (h0).mem (cE_row cy A aK σ h0) hin6 rfl 0 (by decide) lk8 (fun _ h9 => h9) rfl dX6_become_67 ?_
    refine g_iconst X dX6_become_70 (v := (0 : Int32)) (by decide) ?_
    refine g_aload_n X dX6_become_71 rfl 1 rfl ?_
    refine g_get X (AD := A) (h1).mem (cE_row cy A aK σ h1) hin6 rfl 1 (by decide) lk0 (fun _ h9 => h9) rfl dX6_become_72 ?_
    obtain ⟨hg_23, h⟩ := grd_some h
    obtain ⟨hg_24, h⟩ := grd_some h
    obtain ⟨hg_25, h⟩ := grd_some h
    obtain ⟨hg_26, h⟩ := grd_some h
    obtain ⟨hg_27, h⟩ := grd_some h
    refine g_copy X (AD := A) (σ' := sr σ (a0 + 16) (va_cpy (gr σ (a1 + 16)) (gr σ (a0 + 16)) (0 : Int32).toNatClampNeg (0 : Int32).toNatClampNeg (gi σ (8 * a1 + 1)).toNatClampNeg)) lk9 lk10 lk11 lk12 ((isRow.mk h1)).mem ((isRow.mk h0)).mem (cE_mk cy A aK σ (isRow.mk h1)) (cE_mk cy A aK σ (isRow.mk h0)) 0 0 rfl rfl hg_23 hg_24 hg_25 (Nat.le_of_not_lt hg_26) (Nat.le_of_not_lt hg_27) (by decide) (Nat.le_of_ble_eq_true rfl) (st_mk cy A aK σ (va_cpy (gr σ (a1 + 16)) (gr σ (a0 + 16)) (0 : Int32).toNatClampNeg (0 : Int32).toNatClampNeg (gi σ (8 * a1 + 1)).toNatClampNeg) (isRow.mk h0)) dX6_become_75 ?_
    obtain ⟨σ_28, e_29, h⟩ := bnd_some h
    have e_29 := Option.some.inj e_29
    rw [e_29]
    refine g_aload_n X dX6_become_78 rfl 0 rfl ?_
    refine g_aload_n X dX6_become_79 rfl 1 rfl ?_
    refine g_get X (AD := A) (h1).mem (cE_row cy A aK σ_28 h1) hin6 rfl 1 (by decide) lk0 (fun _ h9 => h9) rfl dX6_become_80 ?_
    refine g_put X (AD := A) (ty := .int) (v := .int (gi σ_28 (8 * a1 + 1))) (σ' := si σ_28 (8 * a0 + 1) (gi σ_28 (8 * a1 + 1))) (h0).mem (cE_row cy A aK σ_28 h0) hin6 rfl tyX6 tyX6_ok nmX6 1 (by decide) lk0 (fun _ h9 => h9) rfl (by decide +kernel) rfl rfl (Nat.le_of_ble_eq_true rfl) (sf_row cy A aK σ_28 (gi σ_28 (8 * a1 + 1)) h0) dX6_become_83 ?_
    obtain ⟨σ_30, e_31, h⟩ := bnd_some h
    have e_31 := Option.some.inj e_31
    rw [e_31]
    refine g_iload_n X dX6_become_86 rfl 2 rfl ?_
    cases h
    exact g_iret (Wf := cW cy A aK X9) X ⟨rfl, rfl⟩ dX6_become_87
  exact K0
end MV
