section MV
variable {D : va_G} {cy : Nat → ClassId} {A aK aO aS aV aT : Nat → Nat} {l : Launch} {X9 : va_W}
set_option maxHeartbeats 8000000 in
set_option maxRecDepth 100000 in
theorem m_X5_readKind {σ : St} {a1 : Nat} {r : Int32} {σ' : St} (h1 : isRun a1) (h : f_X5_readKind a1 σ = some (r, σ')) : mI (ZC aK aO aS aV aT) D (cyT cy) l yX5_readKind wsX5_readKind ({ frames := 8, cells := 0, slots := 0, locals := 223 } : Room) (cW cy A aK X9) [.ref (A 12), .ref (A a1)] σ r σ' := by
  unfold f_X5_readKind at h
  refine mI_of (cc := cX5_readKind) (maxL := 3) (ret := (some .boolean)) (by decide) rfl (Nat.le_of_ble_eq_true rfl) (fun p e s m args below meth c B X => ?_)
  have hin7 : ∀ w ∈ wsX70, w ∈ wsX5_readKind := by decide +kernel
  have lk0 : Cond.fieldLink RX5 69 "Cardcabinet$Parser" "KINDS" "[LCardcabinet$Kind;" ∈ wsX5_readKind := by decide +kernel
  have lk1 : Cond.fieldLink RX5 73 "Cardcabinet$Kind" "word" "Ljava/lang/String;" ∈ wsX5_readKind := by decide +kernel
  have lk2 : Cond.fieldLink RX5 79 "Cardcabinet$Run" "kind" "LCardcabinet$Kind;" ∈ wsX5_readKind := by decide +kernel
  have K0 : gG p l e ({ frames := 8, cells := 0, slots := 0, locals := 223 } : Room) s m args below meth c D (cyT cy) B 3 (eI D (cyT cy) (cW cy A aK X9) B below args s r σ') (cW cy A aK X9 σ) 0 0 0 [(0, .ref (A 12)), (1, .ref (A a1))] [] := by
    refine g_iconst X dX5_readKind_0 (v := (0 : Int32)) (by decide) ?_
    refine g_istore_n X dX5_readKind_1 rfl (by decide) (lv' := [(2, .int (0 : Int32)), (0, .ref (A 12)), (1, .ref (A a1))]) rfl ?_
    have L_9 : ∀ (c_1 : Nat) (hp_2 : isRun c_1) (n_5 : Nat) (v_3 : Int32) (σ_4 : St) (o_18 : (Int32 × St) ⊕ (St)), f_X5_readKind_L2 c_1 n_5 v_3 σ_4 = some o_18 → (∀ (σ_10 : St), o_18 = .inr (σ_10) → gG p l e ({ frames := 8, cells := 0, slots := 0, locals := 223 } : Room) s m args below meth c D (cyT cy) B 3 (eI D (cyT cy) (cW cy A aK X9) B below args s r σ') (cW cy A aK X9 σ_10) 0 0 42 [] []) → (∀ r8, o_18 = .inl r8 → r8 = (r, σ')) → gG p l e ({ frames := 8, cells := 0, slots := 0, locals := 223 } : Room) s m args below meth c D (cyT cy) B 3 (eI D (cyT cy) (cW cy A aK X9) B below args s r σ') (cW cy A aK X9 σ_4) 0 0 2 [(0, .ref (A 12)), (1, .ref (A c_1)), (2, .int v_3)] [] := by
      intro c_1 hp_2 n_5
      induction n_5 with
      | zero =>
        intro v_3 σ_4 o_18 h K_7 K_8
        rw [f_X5_readKind_L2] at h
        cases h
      | succ n_5 ih_6 =>
        intro v_3 σ_4 o_18 h K_7 K_8
        rw [f_X5_readKind_L2] at h
        refine g_iload_n X dX5_readKind_2 rfl 2 rfl ?_
        refine g_sKinds X lk0 dX5_readKind_3 ?_
        refine g_kindsLen X dX5_readKind_6 ?_
        refine g_icmp_ge X (tgt := 42) dX5_readKind_7 (by decide) (fun hc_11 => ?_) (fun hc_11 => ?_)
        · have h := ift hc_11 h
          cases h
          exact g_sub [] rfl (K_7 _ rfl)
        · have h := iff_ hc_11 h
          refine g_aload_n X dX5_readKind_10 rfl 0 rfl ?_
          refine g_sKinds X lk0 dX5_readKind_11 ?_
          refine g_iload_n X dX5_readKind_14 rfl 2 rfl ?_
          obtain ⟨hg_12, h⟩ := grd_some h
          refine g_kinds X hg_12 dX5_readKind_15 ?_
          refine g_kWord X (inR hg_12) lk1 dX5_readKind_16 ?_
          obtain ⟨r_14, σ_15, hf_13, h⟩ := bnd2_some h
          refine g_callVI (AD := A) (As := [.ref (aS v_3.toNatClampNeg)]) X (ZC_ok _ _ _ _ _) (m_X5_readToken (lt69 (inR hg_12)) hf_13) (cwV 1 X.1.2.2.2.2 gX5_readKind_X5_readToken rfl rfl rfl (by decide +kernel) ⟨Nat.le_of_ble_eq_true rfl, Nat.le_of_ble_eq_true rfl⟩) rfl cm12 (cE_12 cy A aK σ_4) rfl rfl (Nat.le_of_ble_eq_true rfl) ⟨Nat.zero_le _, Nat.zero_le _⟩ dX5_readKind_19 ?_
          refine g_if_eq X (tgt := 36) dX5_readKind_22 (by decide) (fun hc_16 => ?_) (fun hc_16 => ?_)
          · have h := ift hc_16 h
            refine g_iinc X dX5_readKind_36 2 rfl (v := v_3 + (1 : Int32)) rfl (by decide) (lv' := [(2, .int (v_3 + (1 : Int32))), (0, .ref (A 12)), (1, .ref (A c_1))]) rfl ?_
            refine g_goto X (tgt := 2) dX5_readKind_39 (by decide) ?_
            exact g_sub [1, 2, 0] rfl (ih_6 _ _ _ h K_7 K_8)
          · have h := iff_ hc_16 h
            refine g_aload_n X dX5_readKind_25 rfl 1 rfl ?_
            refine g_sKinds X lk0 dX5_readKind_26 ?_
            refine g_iload_n X dX5_readKind_29 rfl 2 rfl ?_
            obtain ⟨hg_17, h⟩ := grd_some h
            refine g_kinds X hg_17 dX5_readKind_30 ?_
            refine g_put X (AD := A) (ty := (.object "Cardcabinet$Kind")) (v := .ref (aK v_3.toNatClampNeg)) (σ' := sp σ_15 (8 * c_1) v_3.toNatClampNeg) (hp_2).mem (cE_run cy A aK σ_15 hp_2) hin7 rfl tyX7 tyX7_ok nmX7 0 (by decide) lk2 (fun _ h9 => h9) rfl (by decide +kernel) rfl rfl (Nat.le_of_ble_eq_true rfl) (sf_run0 cy A aK σ_15 v_3.toNatClampNeg hp_2) dX5_readKind_31 ?_
            refine g_iconst X dX5_readKind_34 (v := (1 : Int32)) (by decide) ?_
            cases h
            cases K_8 _ rfl
            exact g_zret (Wf := cW cy A aK X9) X rfl ⟨rfl, rfl⟩ dX5_readKind_35
    rcases bndR_some h with ⟨r9, hl_19, he9⟩ | ⟨o9, hl_19, h⟩
    · exact g_sub [1, 2, 0] rfl (L_9 a1 h1 FU (0 : Int32) σ (.inl r9) hl_19 (fun σ_10 e9 => nomatch e9) (fun r8 e9 => by cases e9; exact he9))
    · obtain ⟨σ_10, rfl⟩ : ∃ z, z = o9 := ⟨_, rfl⟩
      refine g_sub [1, 2, 0] rfl (L_9 a1 h1 FU (0 : Int32) σ (.inr σ_10) hl_19 (fun σ_10z e9 => ?_) (fun r8 e9 => nomatch e9))
      cases e9
      refine g_iconst X dX5_readKind_42 (v := (0 : Int32)) (by decide) ?_
      cases h
      exact g_zret (Wf := cW cy A aK X9) X rfl ⟨rfl, rfl⟩ dX5_readKind_43
  exact K0
set_option maxHeartbeats 8000000 in
set_option maxRecDepth 100000 in
theorem m_X9_valueOfNumber {σ : St} {r : Int32} (h : f_X9_valueOfNumber σ = some r) : mI (ZC aK aO aS aV aT) D (cyT cy) l yX9_valueOfNumber wsX9_valueOfNumber ({ frames := 1, cells := 0, slots := 0, locals := 20 } : Room) (cW cy A aK X9) [.ref (A 10)] σ r σ := by
  unfold f_X9_valueOfNumber at h
  refine mI_of (cc := cX9_valueOfNumber) (maxL := 3) (ret := (some .int)) (by decide) rfl (Nat.le_of_ble_eq_true rfl) (fun p e s m args below meth c B X => ?_)
  have hin9 : ∀ w ∈ wsX90, w ∈ wsX9_valueOfNumber := by decide +kernel
  have lk0 : Cond.fieldLink RX9 9 "Cardcabinet$Text" "bytes" "[B" ∈ wsX9_valueOfNumber := by decide +kernel
  have lk1 : Cond.fieldLink RX9 25 "Cardcabinet$Text" "tokenStart" "I" ∈ wsX9_valueOfNumber := by decide +kernel
  have lk2 : Cond.fieldLink RX9 19 "Cardcabinet$Text" "tokenEnd" "I" ∈ wsX9_valueOfNumber := by decide +kernel
  have K0 : gG p l e ({ frames := 1, cells := 0, slots := 0, locals := 20 } : Room) s m args below meth c D (cyT cy) B 3 (eI D (cyT cy) (cW cy A aK X9) B below args s r σ) (cW cy A aK X9 σ) 0 0 0 [(0, .ref (A 10))] [] := by
    refine g_aload_n X dX9_valueOfNumber_0 rfl 0 rfl ?_
    obtain ⟨r_2, hf_1, h⟩ := bnd_some h
    refine g_callVI (AD := A) (As := []) X (ZC_ok _ _ _ _ _) (m_X9_isAtEnd hf_1) (cwV 0 X.1.2.2.2.2 gX9_valueOfNumber_X9_isAtEnd rfl rfl rfl (by decide +kernel) ⟨Nat.le_of_ble_eq_true rfl, Nat.le_of_ble_eq_true rfl⟩) rfl cm10 (cE_10 cy A aK σ) rfl rfl (Nat.le_of_ble_eq_true rfl) ⟨Nat.zero_le _, Nat.zero_le _⟩ dX9_valueOfNumber_1 ?_
    refine g_if_ne X (tgt := 36) dX9_valueOfNumber_4 (by decide) (fun hc_3 => ?_) (fun hc_3 => ?_)
    · have h := iff_ hc_3 h
      refine g_iconst X dX9_valueOfNumber_36 (v := (-1 : Int32)) (by decide) ?_
      cases h
      exact g_iret (Wf := cW cy A aK X9) X ⟨rfl, rfl⟩ dX9_valueOfNumber_37
    · have h := ift hc_3 h
      refine g_aload_n X dX9_valueOfNumber_7 rfl 0 rfl ?_
      refine g_get X (AD := A) cm10 (cE_10 cy A aK σ) hin9 rfl 0 (by decide) lk0 (fun _ h9 => h9) rfl dX9_valueOfNumber_8 ?_
      refine g_aload_n X dX9_valueOfNumber_11 rfl 0 rfl ?_
      refine g_get X (AD := A) cm10 (cE_10 cy A aK σ) hin9 rfl 2 (by decide) lk1 (fun _ h9 => h9) rfl dX9_valueOfNumber_12 ?_
      obtain ⟨hg_4, h⟩ := grd_some h
      refine g_bald X (AD := A) cm11 (cE_11 cy A aK σ) 1 rfl hg_4 dX9_valueOfNumber_15 ?_
      obtain ⟨r_6, hf_5, h⟩ := bnd_some h
      refine g_callSI (AD := A) (As := [.int (gr σ 11 (gi σ 82).toNatClampNeg)]) X (ZC_ok _ _ _ _ _) (m_X9_alphabetOf hf_5) (va_cwS 1 X.1.2.2.2.2 gX9_valueOfNumber_X9_alphabetOf rfl rfl rfl (by decide +kernel) ⟨Nat.le_of_ble_eq_true rfl, Nat.le_of_ble_eq_true rfl⟩) rfl rfl (Nat.le_of_ble_eq_true rfl) ⟨Nat.zero_le _, Nat.zero_le _⟩ dX9_valueOfNumber_16 ?_
      refine g_iconst X dX9_valueOfNumber_19 (v := (1 : Int32)) (by decide) ?_
      refine g_icmp_ne X (tgt := 36) dX9_valueOfNumber_20 (by decide) (fun hc_7 => ?_) (fun hc_7 => ?_)
      · have h := iff_ hc_7 h
        refine g_iconst X dX9_valueOfNumber_36 (v := (-1 : Int32)) (by decide) ?_
        cases h
        exact g_iret (Wf := cW cy A aK X9) X ⟨rfl, rfl⟩ dX9_valueOfNumber_37
      · have h := ift hc_7 h
        refine g_aload_n X dX9_valueOfNumber_23 rfl 0 rfl ?_
        refine g_get X (AD := A) cm10 (cE_10 cy A aK σ) hin9 rfl 3 (by decide) lk2 (fun _ h9 => h9) rfl dX9_valueOfNumber_24 ?_
        refine g_aload_n X dX9_valueOfNumber_27 rfl 0 rfl ?_
        refine g_get X (AD := A) cm10 (cE_10 cy A aK σ) hin9 rfl 2 (by decide) lk1 (fun _ h9 => h9) rfl dX9_valueOfNumber_28 ?_
        refine g_isub X dX9_valueOfNumber_31 ?_
        refine g_iconst X dX9_valueOfNumber_32 (v := (4 : Int32)) (by decide) ?_
        refine g_icmp_le X (tgt := 38) dX9_valueOfNumber_33 (by decide) (fun hc_8 => ?_) (fun hc_8 => ?_)
        · have h := ift hc_8 h
          refine g_iconst X dX9_valueOfNumber_38 (v := (0 : Int32)) (by decide) ?_
          refine g_istore_n X dX9_valueOfNumber_39 rfl (by decide) (lv' := [(1, .int (0 : Int32)), (0, .ref (A 10))]) rfl ?_
          refine g_aload_n X dX9_valueOfNumber_40 rfl 1 rfl ?_
          refine g_get X (AD := A) cm10 (cE_10 cy A aK σ) hin9 rfl 2 (by decide) lk1 (fun _ h9 => h9) rfl dX9_valueOfNumber_41 ?_
          refine g_istore_n X dX9_valueOfNumber_44 rfl (by decide) (lv' := [(2, .int (gi σ 82)), (1, .int (0 : Int32)), (0, .ref (A 10))]) rfl ?_
          have L_16 : ∀ (σ_11 : St) (hq_18 : σ_11 = σ) (n_12 : Nat) (v_9 : Int32) (v_10 : Int32) (o_17 : Int32), f_X9_valueOfNumber_L45 σ_11 n_12 v_9 v_10 = some (o_17) → gG p l e ({ frames := 1, cells := 0, slots := 0, locals := 20 } : Room) s m args below meth c D (cyT cy) B 3 (eI D (cyT cy) (cW cy A aK X9) B below args s r σ) (cW cy A aK X9 σ_11) 0 0 74 [(1, .int o_17)] [] → gG p l e ({ frames := 1, cells := 0, slots := 0, locals := 20 } : Room) s m args below meth c D (cyT cy) B 3 (eI D (cyT cy) (cW cy A aK X9) B below args s r σ) (cW cy A aK X9 σ_11) 0 0 45 [(0, .ref (A 10)), (1, .int v_9), (2, .int v_10)] [] := by
            intro σ_11 hq_18 n_12
            induction n_12 with
            | zero =>
              intro v_9 v_10 o_17 h K_14
              rw [f_X9_valueOfNumber_L45] at h
              cases h
            | succ n_12 ih_13 =>
              intro v_9 v_10 o_17 h K_14
              rw [f_X9_valueOfNumber_L45] at h
              refine g_iload_n X dX9_valueOfNumber_45 rfl 2 rfl ?_
              refine g_aload_n X dX9_valueOfNumber_46 rfl 0 rfl ?_
              refine g_get X (AD := A) cm10 (cE_10 cy A aK σ_11) hin9 rfl 3 (by decide) lk2 (fun _ h9 => h9) rfl dX9_valueOfNumber_47 ?_
              refine g_icmp_ge X (tgt := 74) dX9_valueOfNumber_50 (by decide) (fun hc_19 => ?_) (fun hc_19 => ?_)
              · have h := ift hc_19 h
                cases h
                exact g_sub [1] rfl K_14
              · have h := iff_ hc_19 h
                refine g_iload_n X dX9_valueOfNumber_53 rfl 1 rfl ?_
                refine g_bipush X dX9_valueOfNumber_54 (v := (10 : Int32)) (by decide) ?_
                refine g_imul X dX9_valueOfNumber_56 ?_
                refine g_aload_n X dX9_valueOfNumber_57 rfl 0 rfl ?_
                refine g_get X (AD := A) cm10 (cE_10 cy A aK σ_11) hin9 rfl 0 (by decide) lk0 (fun _ h9 => h9) rfl dX9_valueOfNumber_58 ?_
                refine g_iload_n X dX9_valueOfNumber_61 rfl 2 rfl ?_
                obtain ⟨hg_20, h⟩ := grd_some h
                refine g_bald X (AD := A) cm11 (cE_11 cy A aK σ_11) 1 rfl hg_20 dX9_valueOfNumber_62 ?_
                refine g_bipush X dX9_valueOfNumber_63 (v := (48 : Int32)) (by decide) ?_
                refine g_isub X dX9_valueOfNumber_65 ?_
                refine g_iadd X dX9_valueOfNumber_66 ?_
                refine g_istore_n X dX9_valueOfNumber_67 rfl (by decide) (lv' := [(1, .int ((v_9 * (10 : Int32)) + ((gr σ_11 11 v_10.toNatClampNeg) - (48 : Int32)))), (0, .ref (A 10)), (2, .int v_10)]) rfl ?_
                refine g_iinc X dX9_valueOfNumber_68 2 rfl (v := v_10 + (1 : Int32)) rfl (by decide) (lv' := [(2, .int (v_10 + (1 : Int32))), (1, .int ((v_9 * (10 : Int32)) + ((gr σ_11 11 v_10.toNatClampNeg) - (48 : Int32)))), (0, .ref (A 10))]) rfl ?_
                refine g_goto X (tgt := 45) dX9_valueOfNumber_71 (by decide) ?_
                exact g_sub [2, 1, 0] rfl (ih_13 _ _ _ h K_14)
          obtain ⟨o_17, hl_21, h⟩ := bnd_some h
          refine g_sub [2, 1, 0] rfl (L_16 σ rfl FU (0 : Int32) (gi σ 82) o_17 hl_21 ?_)
          refine g_iload_n X dX9_valueOfNumber_74 rfl 0 rfl ?_
          cases h
          exact g_iret (Wf := cW cy A aK X9) X ⟨rfl, rfl⟩ dX9_valueOfNumber_75
        · have h := iff_ hc_8 h
          refine g_iconst X dX9_valueOfNumber_36 (v := (-1 : Int32)) (by decide) ?_
          cases h
          exact g_iret (Wf := cW cy A aK X9) X ⟨rfl, rfl⟩ dX9_valueOfNumber_37
  exact K0
set_option maxHeartbeats 8000000 in
set_option maxRecDepth 100000 in
theorem m_X5_readNumber {σ : St} {a1 : Int32} {a2 : Int32} {r : Int32} {σ' : St} (h : f_X5_readNumber a1 a2 σ = some (r, σ')) : mI (ZC aK aO aS aV aT) D (cyT cy) l yX5_readNumber wsX5_readNumber ({ frames := 2, cells := 0, slots := 0, locals := 42 } : Room) (cW cy A aK X9) [.ref (A 12), .int a1, .int a2] σ r σ' := by
  unfold f_X5_readNumber at h
  refine mI_of (cc := cX5_readNumber) (maxL := 4) (ret := (some .int)) (by decide) rfl (Nat.le_of_ble_eq_true rfl) (fun p e s m args below meth c B X => ?_)
  have hin5 : ∀ w ∈ wsX50, w ∈ wsX5_readNumber := by decide +kernel
  have lk0 : Cond.fieldLink RX5 17 "Cardcabinet$Parser" "text" "LCardcabinet$Text;" ∈ wsX5_readNumber := by decide +kernel
  have K0 : gG p l e ({ frames := 2, cells := 0, slots := 0, locals := 42 } : Room) s m args below meth c D (cyT cy) B 4 (eI D (cyT cy) (cW cy A aK X9) B below args s r σ') (cW cy A aK X9 σ) 0 0 0 [(0, .ref (A 12)), (1, .int a1), (2, .int a2)] [] := by
    refine g_aload_n X dX5_readNumber_0 rfl 0 rfl ?_
    refine g_get X (AD := A) cm12 (cE_12 cy A aK σ) hin5 rfl 0 (by decide) lk0 (fun _ h9 => h9) rfl dX5_readNumber_1 ?_
    obtain ⟨r_2, hf_1, h⟩ := bnd_some h
    refine g_callVI (AD := A) (As := []) X (ZC_ok _ _ _ _ _) (m_X9_valueOfNumber hf_1) (cwV 0 X.1.2.2.2.2 gX5_readNumber_X9_valueOfNumber rfl rfl rfl (by decide +kernel) ⟨Nat.le_of_ble_eq_true rfl, Nat.le_of_ble_eq_true rfl⟩) rfl cm10 (cE_10 cy A aK σ) rfl rfl (Nat.le_of_ble_eq_true rfl) ⟨Nat.zero_le _, Nat.zero_le _⟩ dX5_readNumber_4 ?_
    refine g_istore_n X dX5_readNumber_7 rfl (by decide) (lv' := [(3, .int r_2), (0, .ref (A 12)), (1, .int a1), (2, .int a2)]) rfl ?_
    refine g_iload_n X dX5_readNumber_8 rfl 0 rfl ?_
    refine g_iload_n X dX5_readNumber_9 rfl 2 rfl ?_
    refine g_icmp_lt X (tgt := 18) dX5_readNumber_10 (by decide) (fun hc_3 => ?_) (fun hc_3 => ?_)
    · have h := ift hc_3 h
      refine g_iconst X dX5_readNumber_18 (v := (-1 : Int32)) (by decide) ?_
      cases h
      exact g_iret (Wf := cW cy A aK X9) X ⟨rfl, rfl⟩ dX5_readNumber_19
    · have h := iff_ hc_3 h
      refine g_iload_n X dX5_readNumber_13 rfl 0 rfl ?_
      refine g_iload_n X dX5_readNumber_14 rfl 3 rfl ?_
      refine g_icmp_le X (tgt := 20) dX5_readNumber_15 (by decide) (fun hc_4 => ?_) (fun hc_4 => ?_)
      · have h := ift hc_4 h
        refine g_aload_n X dX5_readNumber_20 rfl 1 rfl ?_
        refine g_get X (AD := A) cm12 (cE_12 cy A aK σ) hin5 rfl 0 (by decide) lk0 (fun _ h9 => h9) rfl dX5_readNumber_21 ?_
        obtain ⟨σ_6, hf_5, h⟩ := bnd_some h
        refine g_callVV (AD := A) (As := []) X (ZC_ok _ _ _ _ _) (m_X9_toNextToken hf_5) (cwV 0 X.1.2.2.2.2 gX5_readNumber_X9_toNextToken rfl rfl rfl (by decide +kernel) ⟨Nat.le_of_ble_eq_true rfl, Nat.le_of_ble_eq_true rfl⟩) rfl cm10 (cE_10 cy A aK σ) rfl rfl (Nat.le_of_ble_eq_true rfl) ⟨Nat.zero_le _, Nat.zero_le _⟩ dX5_readNumber_24 ?_
        refine g_iload_n X dX5_readNumber_27 rfl 0 rfl ?_
        cases h
        exact g_iret (Wf := cW cy A aK X9) X ⟨rfl, rfl⟩ dX5_readNumber_28
      · have h := iff_ hc_4 h
        refine g_iconst X dX5_readNumber_18 (v := (-1 : Int32)) (by decide) ?_
        cases h
        exact g_iret (Wf := cW cy A aK X9) X ⟨rfl, rfl⟩ dX5_readNumber_19
  exact K0
set_option maxHeartbeats 8000000 in
set_option maxRecDepth 100000 in
theorem m_X5_readCards {σ : St} {a1 : Nat} {r : Int32} {σ' : St} (h1 : isRun a1) (h : f_X5_readCards a1 σ = some (r, σ')) : mI (ZC aK aO aS aV aT) D (cyT cy) l yX5_readCards wsX5_readCards ({ frames := 3, cells := 0, slots := 0, locals := 65 } : Room) (cW cy A aK X9) [.ref (A 12), .ref (A a1)] σ r σ' := by
  unfold f_X5_readCards at h
  refine mI_of (cc := cX5_readCards) (maxL := 2) (ret := (some .boolean)) (by decide) rfl (Nat.le_of_ble_eq_true rfl) (fun p e s m args below meth c B X => ?_)
  have hin7 : ∀ w ∈ wsX70, w ∈ wsX5_readCards := by decide +kernel
  have lk0 : Cond.fieldLink RX5 42 "Cardcabinet$Run" "cards" "I" ∈ wsX5_readCards := by decide +kernel
  have K0 : gG p l e ({ frames := 3, cells := 0, slots := 0, locals := 65 } : Room) s m args below meth c D (cyT cy) B 2 (eI D (cyT cy) (cW cy A aK X9) B below args s r σ') (cW cy A aK X9 σ) 0 0 0 [(0, .ref (A 12)), (1, .ref (A a1))] [] := by
    refine g_aload_n X dX5_readCards_0 rfl 1 rfl ?_
    refine g_aload_n X dX5_readCards_1 rfl 0 rfl ?_
    refine g_iconst X dX5_readCards_2 (v := (1 : Int32)) (by decide) ?_
    refine g_sipush X dX5_readCards_3 (v := (400 : Int32)) (by decide) ?_
    obtain ⟨r_2, σ_3, hf_1, h⟩ := bnd2_some h
    refine g_callVI (AD := A) (As := [.int (1 : Int32), .int (400 : Int32)]) X (ZC_ok _ _ _ _ _) (m_X5_readNumber hf_1) (cwV 2 X.1.2.2.2.2 gX5_readCards_X5_readNumber rfl rfl rfl (by decide +kernel) ⟨Nat.le_of_ble_eq_true rfl, Nat.le_of_ble_eq_true rfl⟩) rfl cm12 (cE_12 cy A aK σ) rfl rfl (Nat.le_of_ble_eq_true rfl) ⟨Nat.zero_le _, Nat.zero_le _⟩ dX5_readCards_6 ?_
    refine g_put X (AD := A) (ty := .int) (v := .int r_2) (σ' := si σ_3 (8 * a1 + 1) r_2) (h1).mem (cE_run cy A aK σ_3 h1) hin7 rfl tyX7 tyX7_ok nmX7 1 (by decide) lk0 (fun _ h9 => h9) rfl (by decide +kernel) rfl rfl (Nat.le_of_ble_eq_true rfl) (sf_run1 cy A aK σ_3 r_2 h1) dX5_readCards_9 ?_
    refine g_aload_n X dX5_readCards_12 rfl 1 rfl ?_
    refine g_get X (AD := A) (h1).mem (cE_run cy A aK (si σ_3 (8 * a1 + 1) r_2) h1) hin7 rfl 1 (by decide) lk0 (fun _ h9 => h9) rfl dX5_readCards_13 ?_
    refine g_iconst X dX5_readCards_16 (v := (-1 : Int32)) (by decide) ?_
    obtain ⟨v_5, hj_8, h⟩ := bnd_some h
    have K_6 : gG p l e ({ frames := 3, cells := 0, slots := 0, locals := 65 } : Room) s m args below meth c D (cyT cy) B 2 (eI D (cyT cy) (cW cy A aK X9) B below args s r σ') (cW cy A aK X9 (si σ_3 (8 * a1 + 1) r_2)) 0 0 25 [] [.int v_5] := by
      obtain ⟨hg_7, h⟩ := grd_some h
      cases h
      exact g_zret (Wf := cW cy A aK X9) X (nar01 hg_7) ⟨rfl, rfl⟩ dX5_readCards_25
    have h := hj_8
    clear hj_8
    refine g_icmp_eq X (tgt := 24) dX5_readCards_17 (by decide) (fun hc_4 => ?_) (fun hc_4 => ?_)
    · have h := ift hc_4 h
      refine g_iconst X dX5_readCards_24 (v := (0 : Int32)) (by decide) ?_
      cases h
      exact g_sub [] rfl K_6
    · have h := iff_ hc_4 h
      refine g_iconst X dX5_readCards_20 (v := (1 : Int32)) (by decide) ?_
      refine g_goto X (tgt := 25) dX5_readCards_21 (by decide) ?_
      cases h
      exact g_sub [] rfl K_6
  exact K0
set_option maxHeartbeats 8000000 in
set_option maxRecDepth 100000 in
theorem m_X5_readStart {σ : St} {a1 : Nat} {r : Int32} {σ' : St} (h1 : isRun a1) (h : f_X5_readStart a1 σ = some (r, σ')) : mI (ZC aK aO aS aV aT) D (cyT cy) l yX5_readStart wsX5_readStart ({ frames := 8, cells := 0, slots := 0, locals := 223 } : Room) (cW cy A aK X9) [.ref (A 12), .ref (A a1)] σ r σ' := by
  unfold f_X5_readStart at h
  refine mI_of (cc := cX5_readStart) (maxL := 4) (ret := (some .boolean)) (by decide) rfl (Nat.le_of_ble_eq_true rfl) (fun p e s m args below meth c B X => ?_)
  have hin7 : ∀ w ∈ wsX70, w ∈ wsX5_readStart := by decide +kernel
  have lk0 : Cond.fieldLink RX5 89 "Cardcabinet$Run" "start" "I" ∈ wsX5_readStart := by decide +kernel
  have K0 : gG p l e ({ frames := 8, cells := 0, slots := 0, locals := 223 } : Room) s m args below meth c D (cyT cy) B 4 (eI D (cyT cy) (cW cy A aK X9) B below args s r σ') (cW cy A aK X9 σ) 0 0 0 [(0, .ref (A 12)), (1, .ref (A a1))] [] := by
    refine g_aload_n X dX5_readStart_0 rfl 0 rfl ?_
    refine g_ldc_minus X dX5_readStart_1 ?_
    obtain ⟨r_2, σ_3, hf_1, h⟩ := bnd2_some h
    refine g_callVI (AD := A) (As := [.ref (aS 7)]) X (ZC_ok _ _ _ _ _) (m_X5_readToken (by decide) hf_1) (cwV 1 X.1.2.2.2.2 gX5_readStart_X5_readToken rfl rfl rfl (by decide +kernel) ⟨Nat.le_of_ble_eq_true rfl, Nat.le_of_ble_eq_true rfl⟩) rfl cm12 (cE_12 cy A aK σ) rfl rfl (Nat.le_of_ble_eq_true rfl) ⟨Nat.zero_le _, Nat.zero_le _⟩ dX5_readStart_3 ?_
    refine g_istore_n X dX5_readStart_6 rfl (by decide) (lv' := [(2, .int r_2), (0, .ref (A 12)), (1, .ref (A a1))]) rfl ?_
    refine g_aload_n X dX5_readStart_7 rfl 1 rfl ?_
    refine g_iconst X dX5_readStart_8 (v := (0 : Int32)) (by decide) ?_
    refine g_sipush X dX5_readStart_9 (v := (9999 : Int32)) (by decide) ?_
    obtain ⟨r_5, σ_6, hf_4, h⟩ := bnd2_some h
    refine g_callVI (AD := A) (As := [.int (0 : Int32), .int (9999 : Int32)]) X (ZC_ok _ _ _ _ _) (m_X5_readNumber hf_4) (cwV 2 X.1.2.2.2.2 gX5_readStart_X5_readNumber rfl rfl rfl (by decide +kernel) ⟨Nat.le_of_ble_eq_true rfl, Nat.le_of_ble_eq_true rfl⟩) rfl cm12 (cE_12 cy A aK σ_3) rfl rfl (Nat.le_of_ble_eq_true rfl) ⟨Nat.zero_le _, Nat.zero_le _⟩ dX5_readStart_12 ?_
    refine g_istore_n X dX5_readStart_15 rfl (by decide) (lv' := [(3, .int r_5), (2, .int r_2), (0, .ref (A 12)), (1, .ref (A a1))]) rfl ?_
    refine g_aload_n X dX5_readStart_16 rfl 3 rfl ?_
    refine g_iload_n X dX5_readStart_17 rfl 1 rfl ?_
    obtain ⟨v_8, hj_15, h⟩ := bnd_some h
    have K_9 : gG p l e ({ frames := 8, cells := 0, slots := 0, locals := 223 } : Room) s m args below meth c D (cyT cy) B 4 (eI D (cyT cy) (cW cy A aK X9) B below args s r σ') (cW cy A aK X9 σ_6) 0 0 27 [(3, .int r_5)] [.int v_8, .ref (A a1)] := by
      refine g_put X (AD := A) (ty := .int) (v := .int v_8) (σ' := si σ_6 (8 * a1 + 2) v_8) (h1).mem (cE_run cy A aK σ_6 h1) hin7 rfl tyX7 tyX7_ok nmX7 2 (by decide) lk0 (fun _ h9 => h9) rfl (by decide +kernel) rfl rfl (Nat.le_of_ble_eq_true rfl) (sf_run2 cy A aK σ_6 v_8 h1) dX5_readStart_27 ?_
      refine g_iload_n X dX5_readStart_30 rfl 0 rfl ?_
      refine g_iconst X dX5_readStart_31 (v := (-1 : Int32)) (by decide) ?_
      obtain ⟨v_11, hj_14, h⟩ := bnd_some h
      have K_12 : gG p l e ({ frames := 8, cells := 0, slots := 0, locals := 223 } : Room) s m args below meth c D (cyT cy) B 4 (eI D (cyT cy) (cW cy A aK X9) B below args s r σ') (cW cy A aK X9 (si σ_6 (8 * a1 + 2) v_8)) 0 0 40 [] [.int v_11] := by
        obtain ⟨hg_13, h⟩ := grd_some h
        cases h
        exact g_zret (Wf := cW cy A aK X9) X (nar01 hg_13) ⟨rfl, rfl⟩ dX5_readStart_40
      have h := hj_14
      clear hj_14
      refine g_icmp_eq X (tgt := 39) dX5_readStart_32 (by decide) (fun hc_10 => ?_) (fun hc_10 => ?_)
      · have h := ift hc_10 h
        refine g_iconst X dX5_readStart_39 (v := (0 : Int32)) (by decide) ?_
        cases h
        exact g_sub [] rfl K_12
      · have h := iff_ hc_10 h
        refine g_iconst X dX5_readStart_35 (v := (1 : Int32)) (by decide) ?_
        refine g_goto X (tgt := 40) dX5_readStart_36 (by decide) ?_
        cases h
        exact g_sub [] rfl K_12
    have h := hj_15
    clear hj_15
    refine g_if_eq X (tgt := 26) dX5_readStart_18 (by decide) (fun hc_7 => ?_) (fun hc_7 => ?_)
    · have h := ift hc_7 h
      refine g_iload_n X dX5_readStart_26 rfl 0 rfl ?_
      cases h
      exact g_sub [0] rfl K_9
    · have h := iff_ hc_7 h
      refine g_iload_n X dX5_readStart_21 rfl 0 rfl ?_
      refine g_ineg X dX5_readStart_22 ?_
      refine g_goto X (tgt := 27) dX5_readStart_23 (by decide) ?_
      cases h
      exact g_sub [0] rfl K_9
  exact K0
set_option maxHeartbeats 8000000 in
set_option maxRecDepth 100000 in
theorem m_X5_readStep {σ : St} {a1 : Nat} {r : Int32} {σ' : St} (h1 : isRun a1) (h : f_X5_readStep a1 σ = some (r, σ')) : mI (ZC aK aO aS aV aT) D (cyT cy) l yX5_readStep wsX5_readStep ({ frames := 3, cells := 0, slots := 0, locals := 65 } : Room) (cW cy A aK X9) [.ref (A 12), .ref (A a1)] σ r σ' := by
  unfold f_X5_readStep at h
  refine mI_of (cc := cX5_readStep) (maxL := 2) (ret := (some .boolean)) (by decide) rfl (Nat.le_of_ble_eq_true rfl) (fun p e s m args below meth c B X => ?_)
  have hin7 : ∀ w ∈ wsX70, w ∈ wsX5_readStep := by decide +kernel
  have lk0 : Cond.fieldLink RX5 79 "Cardcabinet$Run" "kind" "LCardcabinet$Kind;" ∈ wsX5_readStep := by decide +kernel
  have lk1 : Cond.fieldLink RX5 92 "Cardcabinet$Kind" "hasStep" "Z" ∈ wsX5_readStep := by decide +kernel
  have lk2 : Cond.fieldLink RX5 96 "Cardcabinet$Run" "step" "I" ∈ wsX5_readStep := by decide +kernel
  have K0 : gG p l e ({ frames := 3, cells := 0, slots := 0, locals := 65 } : Room) s m args below meth c D (cyT cy) B 2 (eI D (cyT cy) (cW cy A aK X9) B below args s r σ') (cW cy A aK X9 σ) 0 0 0 [(0, .ref (A 12)), (1, .ref (A a1))] [] := by
    refine g_aload_n X dX5_readStep_0 rfl 1 rfl ?_
    refine g_aload_n X dX5_readStep_1 rfl 1 rfl ?_
    refine g_get X (AD := A) (h1).mem (cE_run cy A aK σ h1) hin7 rfl 0 (by decide) lk0 (fun _ h9 => h9) rfl dX5_readStep_2 ?_
    obtain ⟨hg_1, h⟩ := grd_some h
    refine g_kStp X (Nat.lt_of_not_le hg_1) lk1 dX5_readStep_5 ?_
    obtain ⟨v_3, σ_4, hj_14, h⟩ := bnd2_some h
    have K_5 : gG p l e ({ frames := 3, cells := 0, slots := 0, locals := 65 } : Room) s m args below meth c D (cyT cy) B 2 (eI D (cyT cy) (cW cy A aK X9) B below args s r σ') (cW cy A aK X9 σ_4) 0 0 23 [(1, .ref (A a1))] [.int v_3, .ref (A a1)] := by
      refine g_put X (AD := A) (ty := .int) (v := .int v_3) (σ' := si σ_4 (8 * a1 + 3) v_3) (h1).mem (cE_run cy A aK σ_4 h1) hin7 rfl tyX7 tyX7_ok nmX7 3 (by decide) lk2 (fun _ h9 => h9) rfl (by decide +kernel) rfl rfl (Nat.le_of_ble_eq_true rfl) (sf_run3 cy A aK σ_4 v_3 h1) dX5_readStep_23 ?_
      refine g_aload_n X dX5_readStep_26 rfl 0 rfl ?_
      refine g_get X (AD := A) (h1).mem (cE_run cy A aK (si σ_4 (8 * a1 + 3) v_3) h1) hin7 rfl 3 (by decide) lk2 (fun _ h9 => h9) rfl dX5_readStep_27 ?_
      refine g_iconst X dX5_readStep_30 (v := (-1 : Int32)) (by decide) ?_
      obtain ⟨v_10, hj_13, h⟩ := bnd_some h
      have K_11 : gG p l e ({ frames := 3, cells := 0, slots := 0, locals := 65 } : Room) s m args below meth c D (cyT cy) B 2 (eI D (cyT cy) (cW cy A aK X9) B below args s r σ') (cW cy A aK X9 (si σ_4 (8 * a1 + 3) v_3)) 0 0 39 [] [.int v_10] := by
        obtain ⟨hg_12, h⟩ := grd_some h
        cases h
        exact g_zret (Wf := cW cy A aK X9) X (nar01 hg_12) ⟨rfl, rfl⟩ dX5_readStep_39
      have h := hj_13
      clear hj_13
      refine g_icmp_eq X (tgt := 38) dX5_readStep_31 (by decide) (fun hc_9 => ?_) (fun hc_9 => ?_)
      · have h := ift hc_9 h
        refine g_iconst X dX5_readStep_38 (v := (0 : Int32)) (by decide) ?_
        cases h
        exact g_sub [] rfl K_11
      · have h := iff_ hc_9 h
        refine g_iconst X dX5_readStep_34 (v := (1 : Int32)) (by decide) ?_
        refine g_goto X (tgt := 39) dX5_readStep_35 (by decide) ?_
        cases h
        exact g_sub [] rfl K_11
    have h := hj_14
    clear hj_14
    refine g_if_eq X (tgt := 22) dX5_readStep_8 (by decide) (fun hc_2 => ?_) (fun hc_2 => ?_)
    · have h := ift hc_2 h
      refine g_iconst X dX5_readStep_22 (v := (0 : Int32)) (by decide) ?_
      cases h
      exact g_sub [1] rfl K_5
    · have h := iff_ hc_2 h
      refine g_aload_n X dX5_readStep_11 rfl 0 rfl ?_
      refine g_iconst X dX5_readStep_12 (v := (0 : Int32)) (by decide) ?_
      refine g_sipush X dX5_readStep_13 (v := (999 : Int32)) (by decide) ?_
      obtain ⟨r_7, σ_8, hf_6, h⟩ := bnd2_some h
      refine g_callVI (AD := A) (As := [.int (0 : Int32), .int (999 : Int32)]) X (ZC_ok _ _ _ _ _) (m_X5_readNumber hf_6) (cwV 2 X.1.2.2.2.2 gX5_readStep_X5_readNumber rfl rfl rfl (by decide +kernel) ⟨Nat.le_of_ble_eq_true rfl, Nat.le_of_ble_eq_true rfl⟩) rfl cm12 (cE_12 cy A aK σ) rfl rfl (Nat.le_of_ble_eq_true rfl) ⟨Nat.zero_le _, Nat.zero_le _⟩ dX5_readStep_16 ?_
      refine g_goto X (tgt := 23) dX5_readStep_19 (by decide) ?_
      cases h
      exact g_sub [1] rfl K_5
  exact K0
set_option maxHeartbeats 8000000 in
set_option maxRecDepth 100000 in
theorem m_X5_readLength {σ : St} {a1 : Nat} {r : Int32} {σ' : St} (h1 : isRun a1) (h : f_X5_readLength a1 σ = some (r, σ')) : mI (ZC aK aO aS aV aT) D (cyT cy) l yX5_readLength wsX5_readLength ({ frames := 3, cells := 0, slots := 0, locals := 65 } : Room) (cW cy A aK X9) [.ref (A 12), .ref (A a1)] σ r σ' := by
  unfold f_X5_readLength at h
  refine mI_of (cc := cX5_readLength) (maxL := 2) (ret := (some .boolean)) (by decide) rfl (Nat.le_of_ble_eq_true rfl) (fun p e s m args below meth c B X => ?_)
  have hin7 : ∀ w ∈ wsX70, w ∈ wsX5_readLength := by decide +kernel
  have lk0 : Cond.fieldLink RX5 79 "Cardcabinet$Run" "kind" "LCardcabinet$Kind;" ∈ wsX5_readLength := by decide +kernel
  have lk1 : Cond.fieldLink RX5 99 "Cardcabinet$Kind" "hasLength" "Z" ∈ wsX5_readLength := by decide +kernel
  have lk2 : Cond.fieldLink RX5 102 "Cardcabinet$Run" "length" "I" ∈ wsX5_readLength := by decide +kernel
  have K0 : gG p l e ({ frames := 3, cells := 0, slots := 0, locals := 65 } : Room) s m args below meth c D (cyT cy) B 2 (eI D (cyT cy) (cW cy A aK X9) B below args s r σ') (cW cy A aK X9 σ) 0 0 0 [(0, .ref (A 12)), (1, .ref (A a1))] [] := by
    refine g_aload_n X dX5_readLength_0 rfl 1 rfl ?_
    refine g_aload_n X dX5_readLength_1 rfl 1 rfl ?_
    refine g_get X (AD := A) (h1).mem (cE_run cy A aK σ h1) hin7 rfl 0 (by decide) lk0 (fun _ h9 => h9) rfl dX5_readLength_2 ?_
    obtain ⟨hg_1, h⟩ := grd_some h
    refine g_kLen X (Nat.lt_of_not_le hg_1) lk1 dX5_readLength_5 ?_
    obtain ⟨v_3, σ_4, hj_14, h⟩ := bnd2_some h
    have K_5 : gG p l e ({ frames := 3, cells := 0, slots := 0, locals := 65 } : Room) s m args below meth c D (cyT cy) B 2 (eI D (cyT cy) (cW cy A aK X9) B below args s r σ') (cW cy A aK X9 σ_4) 0 0 22 [(1, .ref (A a1))] [.int v_3, .ref (A a1)] := by
      refine g_put X (AD := A) (ty := .int) (v := .int v_3) (σ' := si σ_4 (8 * a1 + 4) v_3) (h1).mem (cE_run cy A aK σ_4 h1) hin7 rfl tyX7 tyX7_ok nmX7 4 (by decide) lk2 (fun _ h9 => h9) rfl (by decide +kernel) rfl rfl (Nat.le_of_ble_eq_true rfl) (sf_run4 cy A aK σ_4 v_3 h1) dX5_readLength_22 ?_
      refine g_aload_n X dX5_readLength_25 rfl 0 rfl ?_
      refine g_get X (AD := A) (h1).mem (cE_run cy A aK (si σ_4 (8 * a1 + 4) v_3) h1) hin7 rfl 4 (by decide) lk2 (fun _ h9 => h9) rfl dX5_readLength_26 ?_
      refine g_iconst X dX5_readLength_29 (v := (-1 : Int32)) (by decide) ?_
      obtain ⟨v_10, hj_13, h⟩ := bnd_some h
      have K_11 : gG p l e ({ frames := 3, cells := 0, slots := 0, locals := 65 } : Room) s m args below meth c D (cyT cy) B 2 (eI D (cyT cy) (cW cy A aK X9) B below args s r σ') (cW cy A aK X9 (si σ_4 (8 * a1 + 4) v_3)) 0 0 38 [] [.int v_10] := by
        obtain ⟨hg_12, h⟩ := grd_some h
        cases h
        exact g_zret (Wf := cW cy A aK X9) X (nar01 hg_12) ⟨rfl, rfl⟩ dX5_readLength_38
      have h := hj_13
      clear hj_13
      refine g_icmp_eq X (tgt := 37) dX5_readLength_30 (by decide) (fun hc_9 => ?_) (fun hc_9 => ?_)
      · have h := ift hc_9 h
        refine g_iconst X dX5_readLength_37 (v := (0 : Int32)) (by decide) ?_
        cases h
        exact g_sub [] rfl K_11
      · have h := iff_ hc_9 h
        refine g_iconst X dX5_readLength_33 (v := (1 : Int32)) (by decide) ?_
        refine g_goto X (tgt := 38) dX5_readLength_34 (by decide) ?_
        cases h
        exact g_sub [] rfl K_11
    have h := hj_14
    clear hj_14
    refine g_if_eq X (tgt := 21) dX5_readLength_8 (by decide) (fun hc_2 => ?_) (fun hc_2 => ?_)
    · have h := ift hc_2 h
      refine g_iconst X dX5_readLength_21 (v := (0 : Int32)) (by decide) ?_
      cases h
      exact g_sub [1] rfl K_5
    · have h := iff_ hc_2 h
      refine g_aload_n X dX5_readLength_11 rfl 0 rfl ?_
      refine g_iconst X dX5_readLength_12 (v := (1 : Int32)) (by decide) ?_
      refine g_bipush X dX5_readLength_13 (v := (99 : Int32)) (by decide) ?_
      obtain ⟨r_7, σ_8, hf_6, h⟩ := bnd2_some h
      refine g_callVI (AD := A) (As := [.int (1 : Int32), .int (99 : Int32)]) X (ZC_ok _ _ _ _ _) (m_X5_readNumber hf_6) (cwV 2 X.1.2.2.2.2 gX5_readLength_X5_readNumber rfl rfl rfl (by decide +kernel) ⟨Nat.le_of_ble_eq_true rfl, Nat.le_of_ble_eq_true rfl⟩) rfl cm12 (cE_12 cy A aK σ) rfl rfl (Nat.le_of_ble_eq_true rfl) ⟨Nat.zero_le _, Nat.zero_le _⟩ dX5_readLength_15 ?_
      refine g_goto X (tgt := 22) dX5_readLength_18 (by decide) ?_
      cases h
      exact g_sub [1] rfl K_5
  exact K0
set_option maxHeartbeats 8000000 in
set_option maxRecDepth 100000 in
theorem m_X5_readDivisor {σ : St} {a1 : Nat} {r : Int32} {σ' : St} (h1 : isRun a1) (h : f_X5_readDivisor a1 σ = some (r, σ')) : mI (ZC aK aO aS aV aT) D (cyT cy) l yX5_readDivisor wsX5_readDivisor ({ frames := 8, cells := 0, slots := 0, locals := 223 } : Room) (cW cy A aK X9) [.ref (A 12), .ref (A a1)] σ r σ' := by
  unfold f_X5_readDivisor at h
  refine mI_of (cc := cX5_readDivisor) (maxL := 2) (ret := (some .boolean)) (by decide) rfl (Nat.le_of_ble_eq_true rfl) (fun p e s m args below meth c B X => ?_)
  have hin7 : ∀ w ∈ wsX70, w ∈ wsX5_readDivisor := by decide +kernel
  have lk0 : Cond.fieldLink RX5 107 "Cardcabinet$Run" "divisor" "I" ∈ wsX5_readDivisor := by decide +kernel
  have K0 : gG p l e ({ frames := 8, cells := 0, slots := 0, locals := 223 } : Room) s m args below meth c D (cyT cy) B 2 (eI D (cyT cy) (cW cy A aK X9) B below args s r σ') (cW cy A aK X9 σ) 0 0 0 [(0, .ref (A 12)), (1, .ref (A a1))] [] := by
    refine g_aload_n X dX5_readDivisor_0 rfl 1 rfl ?_
    refine g_aload_n X dX5_readDivisor_1 rfl 0 rfl ?_
    refine g_ldc_mod X dX5_readDivisor_2 ?_
    obtain ⟨r_2, σ_3, hf_1, h⟩ := bnd2_some h
    refine g_callVI (AD := A) (As := [.ref (aS 8)]) X (ZC_ok _ _ _ _ _) (m_X5_readToken (by decide) hf_1) (cwV 1 X.1.2.2.2.2 gX5_readDivisor_X5_readToken rfl rfl rfl (by decide +kernel) ⟨Nat.le_of_ble_eq_true rfl, Nat.le_of_ble_eq_true rfl⟩) rfl cm12 (cE_12 cy A aK σ) rfl rfl (Nat.le_of_ble_eq_true rfl) ⟨Nat.zero_le _, Nat.zero_le _⟩ dX5_readDivisor_4 ?_
    obtain ⟨v_5, σ_6, hj_16, h⟩ := bnd2_some h
    have K_7 : gG p l e ({ frames := 8, cells := 0, slots := 0, locals := 223 } : Room) s m args below meth c D (cyT cy) B 2 (eI D (cyT cy) (cW cy A aK X9) B below args s r σ') (cW cy A aK X9 σ_6) 0 0 21 [(1, .ref (A a1))] [.int v_5, .ref (A a1)] := by
      refine g_put X (AD := A) (ty := .int) (v := .int v_5) (σ' := si σ_6 (8 * a1 + 5) v_5) (h1).mem (cE_run cy A aK σ_6 h1) hin7 rfl tyX7 tyX7_ok nmX7 5 (by decide) lk0 (fun _ h9 => h9) rfl (by decide +kernel) rfl rfl (Nat.le_of_ble_eq_true rfl) (sf_run5 cy A aK σ_6 v_5 h1) dX5_readDivisor_21 ?_
      refine g_aload_n X dX5_readDivisor_24 rfl 0 rfl ?_
      refine g_get X (AD := A) (h1).mem (cE_run cy A aK (si σ_6 (8 * a1 + 5) v_5) h1) hin7 rfl 5 (by decide) lk0 (fun _ h9 => h9) rfl dX5_readDivisor_25 ?_
      refine g_iconst X dX5_readDivisor_28 (v := (-1 : Int32)) (by decide) ?_
      obtain ⟨v_12, hj_15, h⟩ := bnd_some h
      have K_13 : gG p l e ({ frames := 8, cells := 0, slots := 0, locals := 223 } : Room) s m args below meth c D (cyT cy) B 2 (eI D (cyT cy) (cW cy A aK X9) B below args s r σ') (cW cy A aK X9 (si σ_6 (8 * a1 + 5) v_5)) 0 0 37 [] [.int v_12] := by
        obtain ⟨hg_14, h⟩ := grd_some h
        cases h
        exact g_zret (Wf := cW cy A aK X9) X (nar01 hg_14) ⟨rfl, rfl⟩ dX5_readDivisor_37
      have h := hj_15
      clear hj_15
      refine g_icmp_eq X (tgt := 36) dX5_readDivisor_29 (by decide) (fun hc_11 => ?_) (fun hc_11 => ?_)
      · have h := ift hc_11 h
        refine g_iconst X dX5_readDivisor_36 (v := (0 : Int32)) (by decide) ?_
        cases h
        exact g_sub [] rfl K_13
      · have h := iff_ hc_11 h
        refine g_iconst X dX5_readDivisor_32 (v := (1 : Int32)) (by decide) ?_
        refine g_goto X (tgt := 37) dX5_readDivisor_33 (by decide) ?_
        cases h
        exact g_sub [] rfl K_13
    have h := hj_16
    clear hj_16
    refine g_if_eq X (tgt := 20) dX5_readDivisor_7 (by decide) (fun hc_4 => ?_) (fun hc_4 => ?_)
    · have h := ift hc_4 h
      refine g_iconst X dX5_readDivisor_20 (v := (0 : Int32)) (by decide) ?_
      cases h
      exact g_sub [1] rfl K_7
    · have h := iff_ hc_4 h
      refine g_aload_n X dX5_readDivisor_10 rfl 0 rfl ?_
      refine g_iconst X dX5_readDivisor_11 (v := (1 : Int32)) (by decide) ?_
      refine g_bipush X dX5_readDivisor_12 (v := (99 : Int32)) (by decide) ?_
      obtain ⟨r_9, σ_10, hf_8, h⟩ := bnd2_some h
      refine g_callVI (AD := A) (As := [.int (1 : Int32), .int (99 : Int32)]) X (ZC_ok _ _ _ _ _) (m_X5_readNumber hf_8) (cwV 2 X.1.2.2.2.2 gX5_readDivisor_X5_readNumber rfl rfl rfl (by decide +kernel) ⟨Nat.le_of_ble_eq_true rfl, Nat.le_of_ble_eq_true rfl⟩) rfl cm12 (cE_12 cy A aK σ_3) rfl rfl (Nat.le_of_ble_eq_true rfl) ⟨Nat.zero_le _, Nat.zero_le _⟩ dX5_readDivisor_14 ?_
      refine g_goto X (tgt := 21) dX5_readDivisor_17 (by decide) ?_
      cases h
      exact g_sub [1] rfl K_7
  exact K0
set_option maxHeartbeats 8000000 in
set_option maxRecDepth 100000 in
theorem m_X5_readRun {σ : St} {a1 : Nat} {r : Int32} {σ' : St} (h1 : isRun a1) (h : f_X5_readRun a1 σ = some (r, σ')) : mI (ZC aK aO aS aV aT) D (cyT cy) l yX5_readRun wsX5_readRun ({ frames := 9, cells := 0, slots := 0, locals := 246 } : Room) (cW cy A aK X9) [.ref (A 12), .ref (A a1)] σ r σ' := by
  unfold f_X5_readRun at h
  refine mI_of (cc := cX5_readRun) (maxL := 2) (ret := (some .boolean)) (by decide) rfl (Nat.le_of_ble_eq_true rfl) (fun p e s m args below meth c B X => ?_)
  have K0 : gG p l e ({ frames := 9, cells := 0, slots := 0, locals := 246 } : Room) s m args below meth c D (cyT cy) B 2 (eI D (cyT cy) (cW cy A aK X9) B below args s r σ') (cW cy A aK X9 σ) 0 0 0 [(0, .ref (A 12)), (1, .ref (A a1))] [] := by
    refine g_aload_n X dX5_readRun_0 rfl 0 rfl ?_
    refine g_aload_n X dX5_readRun_1 rfl 1 rfl ?_
    obtain ⟨r_2, σ_3, hf_1, h⟩ := bnd2_some h
    refine g_callVI (AD := A) (As := [.ref (A a1)]) X (ZC_ok _ _ _ _ _) (m_X5_readKind h1 hf_1) (cwV 1 X.1.2.2.2.2 gX5_readRun_X5_readKind rfl rfl rfl (by decide +kernel) ⟨Nat.le_of_ble_eq_true rfl, Nat.le_of_ble_eq_true rfl⟩) rfl cm12 (cE_12 cy A aK σ) rfl rfl (Nat.le_of_ble_eq_true rfl) ⟨Nat.zero_le _, Nat.zero_le _⟩ dX5_readRun_2 ?_
    obtain ⟨v_5, σ_6, hj_33, h⟩ := bnd2_some h
    have K_7 : gG p l e ({ frames := 9, cells := 0, slots := 0, locals := 246 } : Room) s m args below meth c D (cyT cy) B 2 (eI D (cyT cy) (cW cy A aK X9) B below args s r σ') (cW cy A aK X9 σ_6) 0 0 62 [] [.int v_5] := by
      obtain ⟨hg_32, h⟩ := grd_some h
      cases h
      exact g_zret (Wf := cW cy A aK X9) X (nar01 hg_32) ⟨rfl, rfl⟩ dX5_readRun_62
    have h := hj_33
    clear hj_33
    refine g_if_eq X (tgt := 61) dX5_readRun_5 (by decide) (fun hc_4 => ?_) (fun hc_4 => ?_)
    · have h := ift hc_4 h
      refine g_iconst X dX5_readRun_61 (v := (0 : Int32)) (by decide) ?_
      cases h
      exact g_sub [] rfl K_7
    · have h := iff_ hc_4 h
      refine g_aload_n X dX5_readRun_8 rfl 0 rfl ?_
      refine g_aload_n X dX5_readRun_9 rfl 1 rfl ?_
      obtain ⟨r_9, σ_10, hf_8, h⟩ := bnd2_some h
      refine g_callVI (AD := A) (As := [.ref (A a1)]) X (ZC_ok _ _ _ _ _) (m_X5_readCards h1 hf_8) (cwV 1 X.1.2.2.2.2 gX5_readRun_X5_readCards rfl rfl rfl (by decide +kernel) ⟨Nat.le_of_ble_eq_true rfl, Nat.le_of_ble_eq_true rfl⟩) rfl cm12 (cE_12 cy A aK σ_3) rfl rfl (Nat.le_of_ble_eq_true rfl) ⟨Nat.zero_le _, Nat.zero_le _⟩ dX5_readRun_10 ?_
      refine g_if_eq X (tgt := 61) dX5_readRun_13 (by decide) (fun hc_11 => ?_) (fun hc_11 => ?_)
      · have h := ift hc_11 h
        refine g_iconst X dX5_readRun_61 (v := (0 : Int32)) (by decide) ?_
        cases h
        exact g_sub [] rfl K_7
      · have h := iff_ hc_11 h
        refine g_aload_n X dX5_readRun_16 rfl 0 rfl ?_
        refine g_aload_n X dX5_readRun_17 rfl 1 rfl ?_
        obtain ⟨r_13, σ_14, hf_12, h⟩ := bnd2_some h
        refine g_callVI (AD := A) (As := [.ref (A a1)]) X (ZC_ok _ _ _ _ _) (m_X5_readStart h1 hf_12) (cwV 1 X.1.2.2.2.2 gX5_readRun_X5_readStart rfl rfl rfl (by decide +kernel) ⟨Nat.le_of_ble_eq_true rfl, Nat.le_of_ble_eq_true rfl⟩) rfl cm12 (cE_12 cy A aK σ_10) rfl rfl (Nat.le_of_ble_eq_true rfl) ⟨Nat.zero_le _, Nat.zero_le _⟩ dX5_readRun_18 ?_
        refine g_if_eq X (tgt := 61) dX5_readRun_21 (by decide) (fun hc_15 => ?_) (fun hc_15 => ?_)
        · have h := ift hc_15 h
          refine g_iconst X dX5_readRun_61 (v := (0 : Int32)) (by decide) ?_
          cases h
          exact g_sub [] rfl K_7
        · have h := iff_ hc_15 h
          refine g_aload_n X dX5_readRun_24 rfl 0 rfl ?_
          refine g_aload_n X dX5_readRun_25 rfl 1 rfl ?_
          obtain ⟨r_17, σ_18, hf_16, h⟩ := bnd2_some h
          refine g_callVI (AD := A) (As := [.ref (A a1)]) X (ZC_ok _ _ _ _ _) (m_X5_readStep h1 hf_16) (cwV 1 X.1.2.2.2.2 gX5_readRun_X5_readStep rfl rfl rfl (by decide +kernel) ⟨Nat.le_of_ble_eq_true rfl, Nat.le_of_ble_eq_true rfl⟩) rfl cm12 (cE_12 cy A aK σ_14) rfl rfl (Nat.le_of_ble_eq_true rfl) ⟨Nat.zero_le _, Nat.zero_le _⟩ dX5_readRun_26 ?_
          refine g_if_eq X (tgt := 61) dX5_readRun_29 (by decide) (fun hc_19 => ?_) (fun hc_19 => ?_)
          · have h := ift hc_19 h
            refine g_iconst X dX5_readRun_61 (v := (0 : Int32)) (by decide) ?_
            cases h
            exact g_sub [] rfl K_7
          · have h := iff_ hc_19 h
            refine g_aload_n X dX5_readRun_32 rfl 0 rfl ?_
            refine g_aload_n X dX5_readRun_33 rfl 1 rfl ?_
            obtain ⟨r_21, σ_22, hf_20, h⟩ := bnd2_some h
            refine g_callVI (AD := A) (As := [.ref (A a1)]) X (ZC_ok _ _ _ _ _) (m_X5_readLength h1 hf_20) (cwV 1 X.1.2.2.2.2 gX5_readRun_X5_readLength rfl rfl rfl (by decide +kernel) ⟨Nat.le_of_ble_eq_true rfl, Nat.le_of_ble_eq_true rfl⟩) rfl cm12 (cE_12 cy A aK σ_18) rfl rfl (Nat.le_of_ble_eq_true rfl) ⟨Nat.zero_le _, Nat.zero_le _⟩ dX5_readRun_34 ?_
            refine g_if_eq X (tgt := 61) dX5_readRun_37 (by decide) (fun hc_23 => ?_) (fun hc_23 => ?_)
            · have h := ift hc_23 h
              refine g_iconst X dX5_readRun_61 (v := (0 : Int32)) (by decide) ?_
              cases h
              exact g_sub [] rfl K_7
            · have h := iff_ hc_23 h
              refine g_aload_n X dX5_readRun_40 rfl 0 rfl ?_
              refine g_aload_n X dX5_readRun_41 rfl 1 rfl ?_
              obtain ⟨r_25, σ_26, hf_24, h⟩ := bnd2_some h
              refine g_callVI (AD := A) (As := [.ref (A a1)]) X (ZC_ok _ _ _ _ _) (m_X5_readDivisor h1 hf_24) (cwV 1 X.1.2.2.2.2 gX5_readRun_X5_readDivisor rfl rfl rfl (by decide +kernel) ⟨Nat.le_of_ble_eq_true rfl, Nat.le_of_ble_eq_true rfl⟩) rfl cm12 (cE_12 cy A aK σ_22) rfl rfl (Nat.le_of_ble_eq_true rfl) ⟨Nat.zero_le _, Nat.zero_le _⟩ dX5_readRun_42 ?_
              refine g_if_eq X (tgt := 61) dX5_readRun_45 (by decide) (fun hc_27 => ?_) (fun hc_27 => ?_)
              · have h := ift hc_27 h
                refine g_iconst X dX5_readRun_61 (v := (0 : Int32)) (by decide) ?_
                cases h
                exact g_sub [] rfl K_7
              · have h := iff_ hc_27 h
                refine g_aload_n X dX5_readRun_48 rfl 0 rfl ?_
                refine g_ldc_semi X dX5_readRun_49 ?_
                obtain ⟨r_29, σ_30, hf_28, h⟩ := bnd2_some h
                refine g_callVI (AD := A) (As := [.ref (aS 6)]) X (ZC_ok _ _ _ _ _) (m_X5_readToken (by decide) hf_28) (cwV 1 X.1.2.2.2.2 gX5_readRun_X5_readToken rfl rfl rfl (by decide +kernel) ⟨Nat.le_of_ble_eq_true rfl, Nat.le_of_ble_eq_true rfl⟩) rfl cm12 (cE_12 cy A aK σ_26) rfl rfl (Nat.le_of_ble_eq_true rfl) ⟨Nat.zero_le _, Nat.zero_le _⟩ dX5_readRun_51 ?_
                refine g_if_eq X (tgt := 61) dX5_readRun_54 (by decide) (fun hc_31 => ?_) (fun hc_31 => ?_)
                · have h := ift hc_31 h
                  refine g_iconst X dX5_readRun_61 (v := (0 : Int32)) (by decide) ?_
                  cases h
                  exact g_sub [] rfl K_7
                · have h := iff_ hc_31 h
                  refine g_iconst X dX5_readRun_57 (v := (1 : Int32)) (by decide) ?_
                  refine g_goto X (tgt := 62) dX5_readRun_58 (by decide) ?_
                  cases h
                  exact g_sub [] rfl K_7
  exact K0
end MV
