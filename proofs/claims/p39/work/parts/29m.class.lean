section MV
variable {D : va_G} {cy : Nat → ClassId} {A aK aO aS aV aT : Nat → Nat} {l : Launch} {X9 : va_W}
set_option maxHeartbeats 8000000 in
set_option maxRecDepth 100000 in
theorem m_X10_isSorted {σ : St} {a1 : Int32} {r : String ⊕ Int32} (hl : l.stackTraces = false) (h : f_X10_isSorted a1 σ = some r) : xI (ZC aK aO aS aV aT) D (cyT cy) l yX10_isSorted wsX10_isSorted ({ frames := 7, cells := thrC r, slots := thrS r, locals := 151 } : Room) (cW cy A aK X9) [.ref (A 0), .int a1] σ r σ (thrC r) (thrS r) := by
  unfold f_X10_isSorted at h
  refine xI_of (cc := cX10_isSorted) (maxL := 2) (ret := (some .boolean)) (by decide) rfl (Nat.le_of_ble_eq_true rfl) (fun p e s m args below meth c B X hx0 => ?_)
  have K0 : gG p l e ({ frames := 7, cells := thrC r, slots := thrS r, locals := 151 } : Room) s m args below meth c D (cyT cy) B 2 (xeI D (cyT cy) (cW cy A aK X9) B below args s r σ (thrC r) (thrS r)) (cW cy A aK X9 σ) 0 0 0 [(0, .ref (A 0)), (1, .int a1)] [] := by
    refine g_aload_n X dX10_isSorted_0 rfl 0 rfl ?_
    refine g_aload_n X dX10_isSorted_1 rfl 0 rfl ?_
    refine g_iload_n X dX10_isSorted_2 rfl 1 rfl ?_
    rcases bndX_some h with ⟨E_3, hf_1, h⟩ | ⟨r_2, hf_1, h⟩
    · cases h
      exact g_xVR_thr (AD := A) (As := [.int a1]) X (ZC_ok _ _ _ _ _) hx0 (m_X10_rowAt hl hf_1) (cwV 1 X.1.2.2.2.2 gX10_isSorted_X10_rowAt rfl rfl rfl (by decide +kernel) ⟨Nat.le_of_ble_eq_true rfl, Nat.le_of_ble_eq_true rfl⟩) rfl cm0 (cE_0 cy A aK _) rfl rfl (Nat.le_of_ble_eq_true rfl) ⟨thrC_l (β := Int32) _ "", thrS_l (β := Int32) _ ""⟩ dX10_isSorted_3 rfl rfl (thrC_l (β := Int32) _ "") (thrS_l (β := Int32) _ "")
    refine g_xVR_ret (AD := A) (As := [.int a1]) X (ZC_ok _ _ _ _ _) (m_X10_rowAt hl hf_1) (cwV 1 X.1.2.2.2.2 gX10_isSorted_X10_rowAt rfl rfl rfl (by decide +kernel) ⟨Nat.le_of_ble_eq_true rfl, Nat.le_of_ble_eq_true rfl⟩) rfl cm0 (cE_0 cy A aK σ) rfl rfl (Nat.le_of_ble_eq_true rfl) ⟨thrC_r _ _, thrS_r _ _⟩ dX10_isSorted_3 (k' := 0) (n' := 0) (thrC_r _ _) (thrS_r _ _) ?_
    obtain ⟨r_5, hf_4, h⟩ := bnd_some h
    refine g_callVI (AD := A) (As := [.ref (A r_2)]) X (ZC_ok _ _ _ _ _) (m_X10_rises (f_X10_rowAt_row hf_1) hf_4) (cwV 1 X.1.2.2.2.2 gX10_isSorted_X10_rises rfl rfl rfl (by decide +kernel) ⟨Nat.le_of_ble_eq_true rfl, Nat.le_of_ble_eq_true rfl⟩) rfl cm0 (cE_0 cy A aK σ) rfl rfl (Nat.le_of_ble_eq_true rfl) ⟨Nat.zero_le _, Nat.zero_le _⟩ dX10_isSorted_6 ?_
    obtain ⟨hg_6, h⟩ := grd_some h
    cases h
    exact g_xret (g_zret (Wf := cW cy A aK X9) X (nar01 hg_6) ⟨rfl, rfl⟩ dX10_isSorted_9)
  exact K0
set_option maxHeartbeats 8000000 in
set_option maxRecDepth 100000 in
theorem m_X10_runs {σ : St} {a1 : Int32} {r : String ⊕ Int32} (hl : l.stackTraces = false) (h : f_X10_runs a1 σ = some r) : xI (ZC aK aO aS aV aT) D (cyT cy) l yX10_runs wsX10_runs ({ frames := 7, cells := thrC r, slots := thrS r, locals := 151 } : Room) (cW cy A aK X9) [.ref (A 0), .int a1] σ r σ (thrC r) (thrS r) := by
  unfold f_X10_runs at h
  refine xI_of (cc := cX10_runs) (maxL := 2) (ret := (some .int)) (by decide) rfl (Nat.le_of_ble_eq_true rfl) (fun p e s m args below meth c B X hx0 => ?_)
  have K0 : gG p l e ({ frames := 7, cells := thrC r, slots := thrS r, locals := 151 } : Room) s m args below meth c D (cyT cy) B 2 (xeI D (cyT cy) (cW cy A aK X9) B below args s r σ (thrC r) (thrS r)) (cW cy A aK X9 σ) 0 0 0 [(0, .ref (A 0)), (1, .int a1)] [] := by
    refine g_aload_n X dX10_runs_0 rfl 0 rfl ?_
    refine g_aload_n X dX10_runs_1 rfl 0 rfl ?_
    refine g_iload_n X dX10_runs_2 rfl 1 rfl ?_
    rcases bndX_some h with ⟨E_3, hf_1, h⟩ | ⟨r_2, hf_1, h⟩
    · cases h
      exact g_xVR_thr (AD := A) (As := [.int a1]) X (ZC_ok _ _ _ _ _) hx0 (m_X10_rowAt hl hf_1) (cwV 1 X.1.2.2.2.2 gX10_runs_X10_rowAt rfl rfl rfl (by decide +kernel) ⟨Nat.le_of_ble_eq_true rfl, Nat.le_of_ble_eq_true rfl⟩) rfl cm0 (cE_0 cy A aK _) rfl rfl (Nat.le_of_ble_eq_true rfl) ⟨thrC_l (β := Int32) _ "", thrS_l (β := Int32) _ ""⟩ dX10_runs_3 rfl rfl (thrC_l (β := Int32) _ "") (thrS_l (β := Int32) _ "")
    refine g_xVR_ret (AD := A) (As := [.int a1]) X (ZC_ok _ _ _ _ _) (m_X10_rowAt hl hf_1) (cwV 1 X.1.2.2.2.2 gX10_runs_X10_rowAt rfl rfl rfl (by decide +kernel) ⟨Nat.le_of_ble_eq_true rfl, Nat.le_of_ble_eq_true rfl⟩) rfl cm0 (cE_0 cy A aK σ) rfl rfl (Nat.le_of_ble_eq_true rfl) ⟨thrC_r _ _, thrS_r _ _⟩ dX10_runs_3 (k' := 0) (n' := 0) (thrC_r _ _) (thrS_r _ _) ?_
    obtain ⟨r_5, hf_4, h⟩ := bnd_some h
    refine g_callVI (AD := A) (As := [.ref (A r_2)]) X (ZC_ok _ _ _ _ _) (m_X10_numberOfRuns (f_X10_rowAt_row hf_1) hf_4) (cwV 1 X.1.2.2.2.2 gX10_runs_X10_numberOfRuns rfl rfl rfl (by decide +kernel) ⟨Nat.le_of_ble_eq_true rfl, Nat.le_of_ble_eq_true rfl⟩) rfl cm0 (cE_0 cy A aK σ) rfl rfl (Nat.le_of_ble_eq_true rfl) ⟨Nat.zero_le _, Nat.zero_le _⟩ dX10_runs_6 ?_
    cases h
    exact g_xret (g_iret (Wf := cW cy A aK X9) X ⟨rfl, rfl⟩ dX10_runs_9)
  exact K0
set_option maxHeartbeats 8000000 in
set_option maxRecDepth 100000 in
theorem m_X10_lengthOfLongestRun {σ : St} {a1 : Nat} {r : Int32} (h1 : isRow a1) (h : f_X10_lengthOfLongestRun a1 σ = some r) : mI (ZC aK aO aS aV aT) D (cyT cy) l yX10_lengthOfLongestRun wsX10_lengthOfLongestRun ({ frames := 3, cells := 0, slots := 0, locals := 65 } : Room) (cW cy A aK X9) [.ref (A 0), .ref (A a1)] σ r σ := by
  unfold f_X10_lengthOfLongestRun at h
  refine mI_of (cc := cX10_lengthOfLongestRun) (maxL := 5) (ret := (some .int)) (by decide) rfl (Nat.le_of_ble_eq_true rfl) (fun p e s m args below meth c B X => ?_)
  have hin6 : ∀ w ∈ wsX60, w ∈ wsX10_lengthOfLongestRun := by decide +kernel
  have lk0 : Cond.fieldLink RX10 120 "Cardcabinet$Row" "size" "I" ∈ wsX10_lengthOfLongestRun := by decide +kernel
  have lk1 : Cond.methodLink RX10 280 Lib.Math.max.name ∈ wsX10_lengthOfLongestRun := by decide +kernel
  have lk2 : Cond.static Lib.Math.max.name ∈ wsX10_lengthOfLongestRun := by decide +kernel
  have lk3 : Cond.initialized "java/lang/Math" ∈ wsX10_lengthOfLongestRun := by decide +kernel
  have lk4 : Cond.code Lib.Math.max.name Lib.Math.max.code 2 (some .int) ∈ wsX10_lengthOfLongestRun := by decide +kernel
  have K0 : gG p l e ({ frames := 3, cells := 0, slots := 0, locals := 65 } : Room) s m args below meth c D (cyT cy) B 5 (eI D (cyT cy) (cW cy A aK X9) B below args s r σ) (cW cy A aK X9 σ) 0 0 0 [(0, .ref (A 0)), (1, .ref (A a1))] [] := by
    refine g_iconst X dX10_lengthOfLongestRun_0 (v := (0 : Int32)) (by decide) ?_
    refine g_istore_n X dX10_lengthOfLongestRun_1 rfl (by decide) (lv' := [(2, .int (0 : Int32)), (0, .ref (A 0)), (1, .ref (A a1))]) rfl ?_
    refine g_iconst X dX10_lengthOfLongestRun_2 (v := (0 : Int32)) (by decide) ?_
    refine g_istore_n X dX10_lengthOfLongestRun_3 rfl (by decide) (lv' := [(3, .int (0 : Int32)), (2, .int (0 : Int32)), (0, .ref (A 0)), (1, .ref (A a1))]) rfl ?_
    refine g_iconst X dX10_lengthOfLongestRun_4 (v := (0 : Int32)) (by decide) ?_
    refine g_istore X dX10_lengthOfLongestRun_5 (by decide) (lv' := [(4, .int (0 : Int32)), (3, .int (0 : Int32)), (2, .int (0 : Int32)), (0, .ref (A 0)), (1, .ref (A a1))]) rfl ?_
    have L_11 : ∀ (c_1 : Nat) (hp_2 : isRow c_1) (σ_6 : St) (hq_13 : σ_6 = σ) (n_7 : Nat) (v_3 : Int32) (v_4 : Int32) (v_5 : Int32) (o_12 : Int32), f_X10_lengthOfLongestRun_L7 c_1 σ_6 n_7 v_3 v_4 v_5 = some (o_12) → gG p l e ({ frames := 3, cells := 0, slots := 0, locals := 65 } : Room) s m args below meth c D (cyT cy) B 5 (eI D (cyT cy) (cW cy A aK X9) B below args s r σ) (cW cy A aK X9 σ_6) 0 0 46 [(2, .int o_12)] [] → gG p l e ({ frames := 3, cells := 0, slots := 0, locals := 65 } : Room) s m args below meth c D (cyT cy) B 5 (eI D (cyT cy) (cW cy A aK X9) B below args s r σ) (cW cy A aK X9 σ_6) 0 0 7 [(0, .ref (A 0)), (1, .ref (A c_1)), (2, .int v_3), (3, .int v_4), (4, .int v_5)] [] := by
      intro c_1 hp_2 σ_6 hq_13 n_7
      induction n_7 with
      | zero =>
        intro v_3 v_4 v_5 o_12 h K_9
        rw [f_X10_lengthOfLongestRun_L7] at h
        cases h
      | succ n_7 ih_8 =>
        intro v_3 v_4 v_5 o_12 h K_9
        rw [f_X10_lengthOfLongestRun_L7] at h
        refine g_iload X dX10_lengthOfLongestRun_7 4 rfl ?_
        refine g_aload_n X dX10_lengthOfLongestRun_9 rfl 1 rfl ?_
        refine g_get X (AD := A) (hp_2).mem (cE_row cy A aK σ_6 hp_2) hin6 rfl 1 (by decide) lk0 (fun _ h9 => h9) rfl dX10_lengthOfLongestRun_10 ?_
        refine g_icmp_ge X (tgt := 46) dX10_lengthOfLongestRun_13 (by decide) (fun hc_14 => ?_) (fun hc_14 => ?_)
        · have h := ift hc_14 h
          cases h
          exact g_sub [2] rfl K_9
        · have h := iff_ hc_14 h
          refine g_aload_n X dX10_lengthOfLongestRun_16 rfl 0 rfl ?_
          refine g_aload_n X dX10_lengthOfLongestRun_17 rfl 1 rfl ?_
          refine g_iload X dX10_lengthOfLongestRun_18 4 rfl ?_
          obtain ⟨r_16, hf_15, h⟩ := bnd_some h
          refine g_callVI (AD := A) (As := [.ref (A c_1), .int v_5]) X (ZC_ok _ _ _ _ _) (m_X10_startsRun hp_2 hf_15) (cwV 2 X.1.2.2.2.2 gX10_lengthOfLongestRun_X10_startsRun rfl rfl rfl (by decide +kernel) ⟨Nat.le_of_ble_eq_true rfl, Nat.le_of_ble_eq_true rfl⟩) rfl cm0 (cE_0 cy A aK σ_6) rfl rfl (Nat.le_of_ble_eq_true rfl) ⟨Nat.zero_le _, Nat.zero_le _⟩ dX10_lengthOfLongestRun_20 ?_
          obtain ⟨v_18, hj_20, h⟩ := bnd_some h
          have K_19 : gG p l e ({ frames := 3, cells := 0, slots := 0, locals := 65 } : Room) s m args below meth c D (cyT cy) B 5 (eI D (cyT cy) (cW cy A aK X9) B below args s r σ) (cW cy A aK X9 σ_6) 0 0 29 [(0, .ref (A 0)), (1, .ref (A c_1)), (2, .int v_3), (3, .int v_18), (4, .int v_5)] [] := by
            refine g_iload_n X dX10_lengthOfLongestRun_29 rfl 2 rfl ?_
            refine g_iload X dX10_lengthOfLongestRun_30 4 rfl ?_
            refine g_iconst X dX10_lengthOfLongestRun_32 (v := (1 : Int32)) (by decide) ?_
            refine g_iadd X dX10_lengthOfLongestRun_33 ?_
            refine g_iload_n X dX10_lengthOfLongestRun_34 rfl 3 rfl ?_
            refine g_isub X dX10_lengthOfLongestRun_35 ?_
            refine g_max X lk1 lk2 lk3 lk4 (Nat.le_of_ble_eq_true rfl) (Nat.le_of_ble_eq_true rfl) ⟨Nat.zero_le _, Nat.zero_le _⟩ dX10_lengthOfLongestRun_36 ?_
            refine g_istore_n X dX10_lengthOfLongestRun_39 rfl (by decide) (lv' := [(2, .int (if v_3 < ((v_5 + (1 : Int32)) - v_18) then ((v_5 + (1 : Int32)) - v_18) else v_3)), (0, .ref (A 0)), (1, .ref (A c_1)), (3, .int v_18), (4, .int v_5)]) rfl ?_
            refine g_iinc X dX10_lengthOfLongestRun_40 4 rfl (v := v_5 + (1 : Int32)) rfl (by decide) (lv' := [(4, .int (v_5 + (1 : Int32))), (2, .int (if v_3 < ((v_5 + (1 : Int32)) - v_18) then ((v_5 + (1 : Int32)) - v_18) else v_3)), (0, .ref (A 0)), (1, .ref (A c_1)), (3, .int v_18)]) rfl ?_
            refine g_goto X (tgt := 7) dX10_lengthOfLongestRun_43 (by decide) ?_
            exact g_sub [2, 3, 1, 4, 0] rfl (ih_8 _ _ _ _ h K_9)
          have h := hj_20
          clear hj_20
          refine g_if_eq X (tgt := 29) dX10_lengthOfLongestRun_23 (by decide) (fun hc_17 => ?_) (fun hc_17 => ?_)
          · have h := ift hc_17 h
            cases h
            exact g_sub [0, 1, 2, 3, 4] rfl K_19
          · have h := iff_ hc_17 h
            refine g_iload X dX10_lengthOfLongestRun_26 4 rfl ?_
            refine g_istore_n X dX10_lengthOfLongestRun_28 rfl (by decide) (lv' := [(3, .int v_5), (0, .ref (A 0)), (1, .ref (A c_1)), (2, .int v_3), (4, .int v_5)]) rfl ?_
            cases h
            exact g_sub [1, 2, 3, 0, 4] rfl K_19
    obtain ⟨o_12, hl_21, h⟩ := bnd_some h
    refine g_sub [3, 4, 2, 1, 0] rfl (L_11 a1 h1 σ rfl FU (0 : Int32) (0 : Int32) (0 : Int32) o_12 hl_21 ?_)
    refine g_iload_n X dX10_lengthOfLongestRun_46 rfl 0 rfl ?_
    cases h
    exact g_iret (Wf := cW cy A aK X9) X ⟨rfl, rfl⟩ dX10_lengthOfLongestRun_47
  exact K0
set_option maxHeartbeats 8000000 in
set_option maxRecDepth 100000 in
theorem m_X10_longestRun {σ : St} {a1 : Int32} {r : String ⊕ Int32} (hl : l.stackTraces = false) (h : f_X10_longestRun a1 σ = some r) : xI (ZC aK aO aS aV aT) D (cyT cy) l yX10_longestRun wsX10_longestRun ({ frames := 7, cells := thrC r, slots := thrS r, locals := 151 } : Room) (cW cy A aK X9) [.ref (A 0), .int a1] σ r σ (thrC r) (thrS r) := by
  unfold f_X10_longestRun at h
  refine xI_of (cc := cX10_longestRun) (maxL := 2) (ret := (some .int)) (by decide) rfl (Nat.le_of_ble_eq_true rfl) (fun p e s m args below meth c B X hx0 => ?_)
  have K0 : gG p l e ({ frames := 7, cells := thrC r, slots := thrS r, locals := 151 } : Room) s m args below meth c D (cyT cy) B 2 (xeI D (cyT cy) (cW cy A aK X9) B below args s r σ (thrC r) (thrS r)) (cW cy A aK X9 σ) 0 0 0 [(0, .ref (A 0)), (1, .int a1)] [] := by
    refine g_aload_n X dX10_longestRun_0 rfl 0 rfl ?_
    refine g_aload_n X dX10_longestRun_1 rfl 0 rfl ?_
    refine g_iload_n X dX10_longestRun_2 rfl 1 rfl ?_
    rcases bndX_some h with ⟨E_3, hf_1, h⟩ | ⟨r_2, hf_1, h⟩
    · cases h
      exact g_xVR_thr (AD := A) (As := [.int a1]) X (ZC_ok _ _ _ _ _) hx0 (m_X10_rowAt hl hf_1) (cwV 1 X.1.2.2.2.2 gX10_longestRun_X10_rowAt rfl rfl rfl (by decide +kernel) ⟨Nat.le_of_ble_eq_true rfl, Nat.le_of_ble_eq_true rfl⟩) rfl cm0 (cE_0 cy A aK _) rfl rfl (Nat.le_of_ble_eq_true rfl) ⟨thrC_l (β := Int32) _ "", thrS_l (β := Int32) _ ""⟩ dX10_longestRun_3 rfl rfl (thrC_l (β := Int32) _ "") (thrS_l (β := Int32) _ "")
    refine g_xVR_ret (AD := A) (As := [.int a1]) X (ZC_ok _ _ _ _ _) (m_X10_rowAt hl hf_1) (cwV 1 X.1.2.2.2.2 gX10_longestRun_X10_rowAt rfl rfl rfl (by decide +kernel) ⟨Nat.le_of_ble_eq_true rfl, Nat.le_of_ble_eq_true rfl⟩) rfl cm0 (cE_0 cy A aK σ) rfl rfl (Nat.le_of_ble_eq_true rfl) ⟨thrC_r _ _, thrS_r _ _⟩ dX10_longestRun_3 (k' := 0) (n' := 0) (thrC_r _ _) (thrS_r _ _) ?_
    obtain ⟨r_5, hf_4, h⟩ := bnd_some h
    refine g_callVI (AD := A) (As := [.ref (A r_2)]) X (ZC_ok _ _ _ _ _) (m_X10_lengthOfLongestRun (f_X10_rowAt_row hf_1) hf_4) (cwV 1 X.1.2.2.2.2 gX10_longestRun_X10_lengthOfLongestRun rfl rfl rfl (by decide +kernel) ⟨Nat.le_of_ble_eq_true rfl, Nat.le_of_ble_eq_true rfl⟩) rfl cm0 (cE_0 cy A aK σ) rfl rfl (Nat.le_of_ble_eq_true rfl) ⟨Nat.zero_le _, Nat.zero_le _⟩ dX10_longestRun_6 ?_
    cases h
    exact g_xret (g_iret (Wf := cW cy A aK X9) X ⟨rfl, rfl⟩ dX10_longestRun_9)
  exact K0
set_option maxHeartbeats 8000000 in
set_option maxRecDepth 100000 in
theorem m_X10_sortCopy {σ : St} {a1 : Nat} {r : Int32} {σ' : St} (h1 : isRow a1) (h : f_X10_sortCopy a1 σ = some (r, σ')) : mI (ZC aK aO aS aV aT) D (cyT cy) l yX10_sortCopy wsX10_sortCopy ({ frames := 4, cells := 0, slots := 0, locals := 119 } : Room) (cW cy A aK X9) [.ref (A 0), .ref (A a1)] σ r σ' := by
  unfold f_X10_sortCopy at h
  refine mI_of (cc := cX10_sortCopy) (maxL := 2) (ret := (some .int)) (by decide) rfl (Nat.le_of_ble_eq_true rfl) (fun p e s m args below meth c B X => ?_)
  have hin10 : ∀ w ∈ wsX100, w ∈ wsX10_sortCopy := by decide +kernel
  have hin6 : ∀ w ∈ wsX60, w ∈ wsX10_sortCopy := by decide +kernel
  have lk0 : Cond.fieldLink RX10 42 "Cardcabinet" "sorter" "LCardcabinet$Sorter;" ∈ wsX10_sortCopy := by decide +kernel
  have lk1 : Cond.fieldLink RX10 120 "Cardcabinet$Row" "size" "I" ∈ wsX10_sortCopy := by decide +kernel
  have lk2 : Cond.fieldLink RX10 139 "Cardcabinet$Order" "BY_FIRST" "LCardcabinet$Order;" ∈ wsX10_sortCopy := by decide +kernel
  have K0 : gG p l e ({ frames := 4, cells := 0, slots := 0, locals := 119 } : Room) s m args below meth c D (cyT cy) B 2 (eI D (cyT cy) (cW cy A aK X9) B below args s r σ') (cW cy A aK X9 σ) 0 0 0 [(0, .ref (A 0)), (1, .ref (A a1))] [] := by
    refine g_aload_n X dX10_sortCopy_0 rfl 0 rfl ?_
    refine g_get X (AD := A) cm0 (cE_0 cy A aK σ) hin10 rfl 6 (by decide) lk0 (fun _ h9 => h9) rfl dX10_sortCopy_1 ?_
    obtain ⟨σ_2, hf_1, h⟩ := bnd_some h
    refine g_callVV (AD := A) (As := []) X (ZC_ok _ _ _ _ _) (m_X8_clear hf_1) (cwV 0 X.1.2.2.2.2 gX10_sortCopy_X8_clear rfl rfl rfl (by decide +kernel) ⟨Nat.le_of_ble_eq_true rfl, Nat.le_of_ble_eq_true rfl⟩) rfl cm7 (cE_7 cy A aK σ) rfl rfl (Nat.le_of_ble_eq_true rfl) ⟨Nat.zero_le _, Nat.zero_le _⟩ dX10_sortCopy_4 ?_
    refine g_aload_n X dX10_sortCopy_7 rfl 0 rfl ?_
    refine g_get X (AD := A) cm0 (cE_0 cy A aK σ_2) hin10 rfl 6 (by decide) lk0 (fun _ h9 => h9) rfl dX10_sortCopy_8 ?_
    refine g_aload_n X dX10_sortCopy_11 rfl 1 rfl ?_
    refine g_iconst X dX10_sortCopy_12 (v := (0 : Int32)) (by decide) ?_
    refine g_aload_n X dX10_sortCopy_13 rfl 1 rfl ?_
    refine g_get X (AD := A) (h1).mem (cE_row cy A aK σ_2 h1) hin6 rfl 1 (by decide) lk1 (fun _ h9 => h9) rfl dX10_sortCopy_14 ?_
    obtain ⟨σ_4, hf_3, h⟩ := bnd_some h
    refine g_callVV (AD := A) (As := [.ref (A a1), .int (0 : Int32), .int (gi σ_2 (8 * a1 + 1))]) X (ZC_ok _ _ _ _ _) (m_X8_take h1 hf_3) (cwV 3 X.1.2.2.2.2 gX10_sortCopy_X8_take rfl rfl rfl (by decide +kernel) ⟨Nat.le_of_ble_eq_true rfl, Nat.le_of_ble_eq_true rfl⟩) rfl cm7 (cE_7 cy A aK σ_2) rfl rfl (Nat.le_of_ble_eq_true rfl) ⟨Nat.zero_le _, Nat.zero_le _⟩ dX10_sortCopy_17 ?_
    refine g_aload_n X dX10_sortCopy_20 rfl 0 rfl ?_
    refine g_get X (AD := A) cm0 (cE_0 cy A aK σ_4) hin10 rfl 6 (by decide) lk0 (fun _ h9 => h9) rfl dX10_sortCopy_21 ?_
    refine g_sO X (i := 0) (by decide) lk2 dX10_sortCopy_24 ?_
    obtain ⟨r_6, σ_7, hf_5, h⟩ := bnd2_some h
    refine g_callVI (AD := A) (As := [.ref (aO 0)]) X (ZC_ok _ _ _ _ _) (m_X8_arrange (by decide) hf_5) (cwV 1 X.1.2.2.2.2 gX10_sortCopy_X8_arrange rfl rfl rfl (by decide +kernel) ⟨Nat.le_of_ble_eq_true rfl, Nat.le_of_ble_eq_true rfl⟩) rfl cm7 (cE_7 cy A aK σ_4) rfl rfl (Nat.le_of_ble_eq_true rfl) ⟨Nat.zero_le _, Nat.zero_le _⟩ dX10_sortCopy_27 ?_
    cases h
    exact g_iret (Wf := cW cy A aK X9) X ⟨rfl, rfl⟩ dX10_sortCopy_30
  exact K0
set_option maxHeartbeats 8000000 in
set_option maxRecDepth 100000 in
theorem m_X10_wrongPairs {σ : St} {a1 : Int32} {r : String ⊕ Int32} {σ' : St} (hl : l.stackTraces = false) (h : f_X10_wrongPairs a1 σ = some (r, σ')) : xI (ZC aK aO aS aV aT) D (cyT cy) l yX10_wrongPairs wsX10_wrongPairs ({ frames := 7, cells := thrC r, slots := thrS r, locals := 151 } : Room) (cW cy A aK X9) [.ref (A 0), .int a1] σ r σ' (thrC r) (thrS r) := by
  unfold f_X10_wrongPairs at h
  refine xI_of (cc := cX10_wrongPairs) (maxL := 2) (ret := (some .int)) (by decide) rfl (Nat.le_of_ble_eq_true rfl) (fun p e s m args below meth c B X hx0 => ?_)
  have K0 : gG p l e ({ frames := 7, cells := thrC r, slots := thrS r, locals := 151 } : Room) s m args below meth c D (cyT cy) B 2 (xeI D (cyT cy) (cW cy A aK X9) B below args s r σ' (thrC r) (thrS r)) (cW cy A aK X9 σ) 0 0 0 [(0, .ref (A 0)), (1, .int a1)] [] := by
    refine g_aload_n X dX10_wrongPairs_0 rfl 0 rfl ?_
    refine g_aload_n X dX10_wrongPairs_1 rfl 0 rfl ?_
    refine g_iload_n X dX10_wrongPairs_2 rfl 1 rfl ?_
    rcases bndX_some h with ⟨E_3, hf_1, h⟩ | ⟨r_2, hf_1, h⟩
    · cases h
      exact g_xVR_thr (AD := A) (As := [.int a1]) X (ZC_ok _ _ _ _ _) hx0 (m_X10_rowAt hl hf_1) (cwV 1 X.1.2.2.2.2 gX10_wrongPairs_X10_rowAt rfl rfl rfl (by decide +kernel) ⟨Nat.le_of_ble_eq_true rfl, Nat.le_of_ble_eq_true rfl⟩) rfl cm0 (cE_0 cy A aK _) rfl rfl (Nat.le_of_ble_eq_true rfl) ⟨thrC_l (β := Int32) _ "", thrS_l (β := Int32) _ ""⟩ dX10_wrongPairs_3 rfl rfl (thrC_l (β := Int32) _ "") (thrS_l (β := Int32) _ "")
    refine g_xVR_ret (AD := A) (As := [.int a1]) X (ZC_ok _ _ _ _ _) (m_X10_rowAt hl hf_1) (cwV 1 X.1.2.2.2.2 gX10_wrongPairs_X10_rowAt rfl rfl rfl (by decide +kernel) ⟨Nat.le_of_ble_eq_true rfl, Nat.le_of_ble_eq_true rfl⟩) rfl cm0 (cE_0 cy A aK σ) rfl rfl (Nat.le_of_ble_eq_true rfl) ⟨thrC_r _ _, thrS_r _ _⟩ dX10_wrongPairs_3 (k' := 0) (n' := 0) (thrC_r _ _) (thrS_r _ _) ?_
    obtain ⟨r_5, σ_6, hf_4, h⟩ := bnd2_some h
    refine g_callVI (AD := A) (As := [.ref (A r_2)]) X (ZC_ok _ _ _ _ _) (m_X10_sortCopy (f_X10_rowAt_row hf_1) hf_4) (cwV 1 X.1.2.2.2.2 gX10_wrongPairs_X10_sortCopy rfl rfl rfl (by decide +kernel) ⟨Nat.le_of_ble_eq_true rfl, Nat.le_of_ble_eq_true rfl⟩) rfl cm0 (cE_0 cy A aK σ) rfl rfl (Nat.le_of_ble_eq_true rfl) ⟨Nat.zero_le _, Nat.zero_le _⟩ dX10_wrongPairs_6 ?_
    cases h
    exact g_xret (g_iret (Wf := cW cy A aK X9) X ⟨rfl, rfl⟩ dX10_wrongPairs_9)
  exact K0
set_option maxHeartbeats 8000000 in
set_option maxRecDepth 100000 in
theorem m_X10_sum {σ : St} {a1 : Int32} {r : String ⊕ Int64} (hl : l.stackTraces = false) (h : f_X10_sum a1 σ = some r) : xL (ZC aK aO aS aV aT) D (cyT cy) l yX10_sum wsX10_sum ({ frames := 7, cells := thrC r, slots := thrS r, locals := 151 } : Room) (cW cy A aK X9) [.ref (A 0), .int a1] σ r σ (thrC r) (thrS r) := by
  unfold f_X10_sum at h
  refine xL_of (cc := cX10_sum) (maxL := 6) (ret := (some .long)) (by decide) rfl (Nat.le_of_ble_eq_true rfl) (fun p e s m args below meth c B X hx0 => ?_)
  have hin6 : ∀ w ∈ wsX60, w ∈ wsX10_sum := by decide +kernel
  have lk0 : Cond.fieldLink RX10 120 "Cardcabinet$Row" "size" "I" ∈ wsX10_sum := by decide +kernel
  have lk1 : Cond.fieldLink RX10 188 "Cardcabinet$Row" "marks" "[I" ∈ wsX10_sum := by decide +kernel
  have K0 : gG p l e ({ frames := 7, cells := thrC r, slots := thrS r, locals := 151 } : Room) s m args below meth c D (cyT cy) B 6 (xeL D (cyT cy) (cW cy A aK X9) B below args s r σ (thrC r) (thrS r)) (cW cy A aK X9 σ) 0 0 0 [(0, .ref (A 0)), (1, .int a1)] [] := by
    refine g_aload_n X dX10_sum_0 rfl 0 rfl ?_
    refine g_iload_n X dX10_sum_1 rfl 1 rfl ?_
    rcases bndX_some h with ⟨E_3, hf_1, h⟩ | ⟨r_2, hf_1, h⟩
    · cases h
      exact g_xVR_thr (AD := A) (As := [.int a1]) X (ZC_ok _ _ _ _ _) hx0 (m_X10_rowAt hl hf_1) (cwV 1 X.1.2.2.2.2 gX10_sum_X10_rowAt rfl rfl rfl (by decide +kernel) ⟨Nat.le_of_ble_eq_true rfl, Nat.le_of_ble_eq_true rfl⟩) rfl cm0 (cE_0 cy A aK _) rfl rfl (Nat.le_of_ble_eq_true rfl) ⟨thrC_l (β := Int32) _ "", thrS_l (β := Int32) _ ""⟩ dX10_sum_2 rfl rfl (thrC_l (β := Int32) _ "") (thrS_l (β := Int32) _ "")
    refine g_xVR_ret (AD := A) (As := [.int a1]) X (ZC_ok _ _ _ _ _) (m_X10_rowAt hl hf_1) (cwV 1 X.1.2.2.2.2 gX10_sum_X10_rowAt rfl rfl rfl (by decide +kernel) ⟨Nat.le_of_ble_eq_true rfl, Nat.le_of_ble_eq_true rfl⟩) rfl cm0 (cE_0 cy A aK σ) rfl rfl (Nat.le_of_ble_eq_true rfl) ⟨thrC_r _ _, thrS_r _ _⟩ dX10_sum_2 (k' := 0) (n' := 0) (thrC_r _ _) (thrS_r _ _) ?_
    refine g_astore_n X dX10_sum_5 rfl (by decide) (lv' := [(2, .ref (A r_2)), (0, .ref (A 0)), (1, .int a1)]) rfl ?_
    refine g_lconst X dX10_sum_6 (v := (0 : Int64)) (by decide) ?_
    refine g_lstore_n X dX10_sum_7 rfl (by decide) (lv' := [(3, .long (0 : Int64)), (2, .ref (A r_2)), (0, .ref (A 0)), (1, .int a1)]) rfl ?_
    refine g_iconst X dX10_sum_8 (v := (0 : Int32)) (by decide) ?_
    refine g_istore X dX10_sum_9 (by decide) (lv' := [(5, .int (0 : Int32)), (3, .long (0 : Int64)), (2, .ref (A r_2)), (0, .ref (A 0)), (1, .int a1)]) rfl ?_
    have L_13 : ∀ (c_4 : Nat) (hp_5 : isRow c_4) (σ_8 : St) (hq_15 : σ_8 = σ) (n_9 : Nat) (v_6 : Int64) (v_7 : Int32) (o_14 : Int64), f_X10_sum_L11 c_4 σ_8 n_9 v_6 v_7 = some (o_14) → gG p l e ({ frames := 7, cells := thrC r, slots := thrS r, locals := 151 } : Room) s m args below meth c D (cyT cy) B 6 (xeL D (cyT cy) (cW cy A aK X9) B below args s r σ (thrC r) (thrS r)) (cW cy A aK X9 σ_8) 0 0 45 [(3, .long o_14)] [] → gG p l e ({ frames := 7, cells := thrC r, slots := thrS r, locals := 151 } : Room) s m args below meth c D (cyT cy) B 6 (xeL D (cyT cy) (cW cy A aK X9) B below args s r σ (thrC r) (thrS r)) (cW cy A aK X9 σ_8) 0 0 11 [(2, .ref (A c_4)), (3, .long v_6), (5, .int v_7)] [] := by
      intro c_4 hp_5 σ_8 hq_15 n_9
      induction n_9 with
      | zero =>
        intro v_6 v_7 o_14 h K_11
        rw [f_X10_sum_L11] at h
        cases h
      | succ n_9 ih_10 =>
        intro v_6 v_7 o_14 h K_11
        rw [f_X10_sum_L11] at h
        refine g_iload X dX10_sum_11 2 rfl ?_
        refine g_aload_n X dX10_sum_13 rfl 0 rfl ?_
        refine g_get X (AD := A) (hp_5).mem (cE_row cy A aK σ_8 hp_5) hin6 rfl 1 (by decide) lk0 (fun _ h9 => h9) rfl dX10_sum_14 ?_
        refine g_icmp_ge X (tgt := 45) dX10_sum_17 (by decide) (fun hc_16 => ?_) (fun hc_16 => ?_)
        · have h := ift hc_16 h
          cases h
          exact g_sub [1] rfl K_11
        · have h := iff_ hc_16 h
          refine g_lload_n X dX10_sum_20 rfl 1 rfl ?_
          refine g_iload X dX10_sum_21 2 rfl ?_
          refine g_i2l X dX10_sum_23 ?_
          refine g_lconst X dX10_sum_24 (v := (1 : Int64)) (by decide) ?_
          refine g_ladd X dX10_sum_25 ?_
          refine g_aload_n X dX10_sum_26 rfl 0 rfl ?_
          refine g_get X (AD := A) (hp_5).mem (cE_row cy A aK σ_8 hp_5) hin6 rfl 0 (by decide) lk1 (fun _ h9 => h9) rfl dX10_sum_27 ?_
          refine g_iload X dX10_sum_30 2 rfl ?_
          obtain ⟨hg_17, h⟩ := grd_some h
          refine g_iald X (AD := A) ((isRow.mk hp_5)).mem (cE_mk cy A aK σ_8 (isRow.mk hp_5)) 0 rfl hg_17 dX10_sum_32 ?_
          refine g_i2l X dX10_sum_33 ?_
          refine g_lconst X dX10_sum_34 (v := (1 : Int64)) (by decide) ?_
          refine g_ladd X dX10_sum_35 ?_
          refine g_lmul X dX10_sum_36 ?_
          refine g_ladd X dX10_sum_37 ?_
          refine g_lstore_n X dX10_sum_38 rfl (by decide) (lv' := [(3, .long (v_6 + ((v_7.toInt64 + (1 : Int64)) * (((gr σ_8 (c_4 + 16) v_7.toNatClampNeg).toInt64) + (1 : Int64))))), (2, .ref (A c_4)), (5, .int v_7)]) rfl ?_
          refine g_iinc X dX10_sum_39 2 rfl (v := v_7 + (1 : Int32)) rfl (by decide) (lv' := [(5, .int (v_7 + (1 : Int32))), (3, .long (v_6 + ((v_7.toInt64 + (1 : Int64)) * (((gr σ_8 (c_4 + 16) v_7.toNatClampNeg).toInt64) + (1 : Int64))))), (2, .ref (A c_4))]) rfl ?_
          refine g_goto X (tgt := 11) dX10_sum_42 (by decide) ?_
          exact g_sub [2, 1, 0] rfl (ih_10 _ _ _ h K_11)
    obtain ⟨o_14, hl_18, h⟩ := bnd_some h
    refine g_sub [2, 1, 0] rfl (L_13 r_2 (f_X10_rowAt_row hf_1) σ rfl FU (0 : Int64) (0 : Int32) o_14 hl_18 ?_)
    refine g_lload_n X dX10_sum_45 rfl 0 rfl ?_
    cases h
    exact g_xret (g_lret (Wf := cW cy A aK X9) X ⟨rfl, rfl⟩ dX10_sum_46)
  exact K0
set_option maxHeartbeats 8000000 in
set_option maxRecDepth 100000 in
theorem m_X10_middle {σ : St} {a1 : Int32} {r : String ⊕ Int32} {σ' : St} (hl : l.stackTraces = false) (h : f_X10_middle a1 σ = some (r, σ')) : xI (ZC aK aO aS aV aT) D (cyT cy) l yX10_middle wzX10_middle ({ frames := 7, cells := thrC r, slots := thrS r, locals := 151 } : Room) (cW cy A aK X9) [.ref (A 0), .int a1] σ r σ' (thrC r) (thrS r) := by
  unfold f_X10_middle at h
  refine xI_of (cc := cX10_middle) (maxL := 3) (ret := (some .int)) (by decide) rfl (Nat.le_of_ble_eq_true rfl) (fun p e s m args below meth c B X hx0 => ?_)
  have hin10 : ∀ w ∈ wsX100, w ∈ wzX10_middle := by decide +kernel
  have hin6 : ∀ w ∈ wsX60, w ∈ wzX10_middle := by decide +kernel
  have lk0 : Cond.fieldLink RX10 120 "Cardcabinet$Row" "size" "I" ∈ wzX10_middle := by decide +kernel
  have lk1 : Cond.fieldLink RX10 42 "Cardcabinet" "sorter" "LCardcabinet$Sorter;" ∈ wzX10_middle := by decide +kernel
  have lk2 : Cond.classLink RX10 244 "java/util/NoSuchElementException" ∈ wzX10_middle := by decide +kernel
  have lk3 : Cond.initialized "java/util/NoSuchElementException" ∈ wzX10_middle := by decide +kernel
  have lk4 : ∀ w ∈ zGood13, w ∈ wzX10_middle := by decide +kernel
  have K0 : gG p l e ({ frames := 7, cells := thrC r, slots := thrS r, locals := 151 } : Room) s m args below meth c D (cyT cy) B 3 (xeI D (cyT cy) (cW cy A aK X9) B below args s r σ' (thrC r) (thrS r)) (cW cy A aK X9 σ) 0 0 0 [(0, .ref (A 0)), (1, .int a1)] [] := by
    refine g_aload_n X dX10_middle_0 rfl 0 rfl ?_
    refine g_iload_n X dX10_middle_1 rfl 1 rfl ?_
    rcases bndX_some h with ⟨E_3, hf_1, h⟩ | ⟨r_2, hf_1, h⟩
    · cases h
      exact g_xVR_thr (AD := A) (As := [.int a1]) X (ZC_ok _ _ _ _ _) hx0 (m_X10_rowAt hl hf_1) (cwV 1 X.1.2.2.2.2 gZX10_middle_X10_rowAt rfl rfl rfl (by decide +kernel) ⟨Nat.le_of_ble_eq_true rfl, Nat.le_of_ble_eq_true rfl⟩) rfl cm0 (cE_0 cy A aK _) rfl rfl (Nat.le_of_ble_eq_true rfl) ⟨thrC_l (β := Int32) _ "", thrS_l (β := Int32) _ ""⟩ dX10_middle_2 rfl rfl (thrC_l (β := Int32) _ "") (thrS_l (β := Int32) _ "")
    refine g_xVR_ret (AD := A) (As := [.int a1]) X (ZC_ok _ _ _ _ _) (m_X10_rowAt hl hf_1) (cwV 1 X.1.2.2.2.2 gZX10_middle_X10_rowAt rfl rfl rfl (by decide +kernel) ⟨Nat.le_of_ble_eq_true rfl, Nat.le_of_ble_eq_true rfl⟩) rfl cm0 (cE_0 cy A aK σ) rfl rfl (Nat.le_of_ble_eq_true rfl) ⟨thrC_r _ _, thrS_r _ _⟩ dX10_middle_2 (k' := 0) (n' := 0) (thrC_r _ _) (thrS_r _ _) ?_
    refine g_astore_n X dX10_middle_5 rfl (by decide) (lv' := [(2, .ref (A r_2)), (0, .ref (A 0)), (1, .int a1)]) rfl ?_
    refine g_aload_n X dX10_middle_6 rfl 0 rfl ?_
    refine g_get X (AD := A) ((f_X10_rowAt_row hf_1)).mem (cE_row cy A aK σ (f_X10_rowAt_row hf_1)) hin6 rfl 1 (by decide) lk0 (fun _ h9 => h9) rfl dX10_middle_7 ?_
    refine g_if_ne X (tgt := 23) dX10_middle_10 (by decide) (fun hc_4 => ?_) (fun hc_4 => ?_)
    · have h := iff_ hc_4 h
      refine g_aload_n X dX10_middle_23 rfl 1 rfl ?_
      refine g_aload_n X dX10_middle_24 rfl 0 rfl ?_
      obtain ⟨r_6, σ_7, hf_5, h⟩ := bnd2_some h
      refine g_callVI (AD := A) (As := [.ref (A r_2)]) X (ZC_ok _ _ _ _ _) (m_X10_sortCopy (f_X10_rowAt_row hf_1) hf_5) (cwV 1 X.1.2.2.2.2 gZX10_middle_X10_sortCopy rfl rfl rfl (by decide +kernel) ⟨Nat.le_of_ble_eq_true rfl, Nat.le_of_ble_eq_true rfl⟩) rfl cm0 (cE_0 cy A aK σ) rfl rfl (Nat.le_of_ble_eq_true rfl) ⟨Nat.zero_le _, Nat.zero_le _⟩ dX10_middle_25 ?_
      refine g_pop X dX10_middle_28 rfl ?_
      refine g_aload_n X dX10_middle_29 rfl 1 rfl ?_
      refine g_get X (AD := A) cm0 (cE_0 cy A aK σ_7) hin10 rfl 6 (by decide) lk1 (fun _ h9 => h9) rfl dX10_middle_30 ?_
      refine g_aload_n X dX10_middle_33 rfl 0 rfl ?_
      refine g_get X (AD := A) ((f_X10_rowAt_row hf_1)).mem (cE_row cy A aK σ_7 (f_X10_rowAt_row hf_1)) hin6 rfl 1 (by decide) lk0 (fun _ h9 => h9) rfl dX10_middle_34 ?_
      refine g_iconst X dX10_middle_37 (v := (1 : Int32)) (by decide) ?_
      refine g_isub X dX10_middle_38 ?_
      refine g_iconst X dX10_middle_39 (v := (2 : Int32)) (by decide) ?_
      refine g_idiv X dX10_middle_40 (by decide) ?_
      obtain ⟨r_9, hf_8, h⟩ := bnd_some h
      refine g_callVI (AD := A) (As := [.int (((gi σ_7 (8 * r_2 + 1)) - (1 : Int32)) / (2 : Int32))]) X (ZC_ok _ _ _ _ _) (m_X8_firstAt hf_8) (cwV 1 X.1.2.2.2.2 gZX10_middle_X8_firstAt rfl rfl rfl (by decide +kernel) ⟨Nat.le_of_ble_eq_true rfl, Nat.le_of_ble_eq_true rfl⟩) rfl cm7 (cE_7 cy A aK σ_7) rfl rfl (Nat.le_of_ble_eq_true rfl) ⟨Nat.zero_le _, Nat.zero_le _⟩ dX10_middle_41 ?_
      cases h
      exact g_xret (g_iret (Wf := cW cy A aK X9) X ⟨rfl, rfl⟩ dX10_middle_44)
    · have h := ift hc_4 h
      cases h
      exact g_thr_NSEE (AD := A) X hl hx0 (is9 := 246) (tx := "the row is empty") (by decide) lk2 lk3 lk4 dX10_middle_13 dX10_middle_16 dX10_middle_17 dX10_middle_19 dX10_middle_22 (by decide) (Nat.le_of_ble_eq_true rfl) ⟨thrC_t (β := Int32) "", thrS_t (β := Int32) ""⟩ rfl rfl (thrC_t (β := Int32) "") (thrS_t (β := Int32) "")
  exact K0
set_option maxHeartbeats 8000000 in
set_option maxRecDepth 100000 in
theorem m_X10_theoremHolds {σ : St} {a1 : Nat} {r : Int32} {σ' : St} (h1 : isRow a1) (h : f_X10_theoremHolds a1 σ = some (r, σ')) : mI (ZC aK aO aS aV aT) D (cyT cy) l yX10_theoremHolds wsX10_theoremHolds ({ frames := 5, cells := 0, slots := 0, locals := 143 } : Room) (cW cy A aK X9) [.ref (A 0), .ref (A a1)] σ r σ' := by
  unfold f_X10_theoremHolds at h
  refine mI_of (cc := cX10_theoremHolds) (maxL := 3) (ret := (some .boolean)) (by decide) rfl (Nat.le_of_ble_eq_true rfl) (fun p e s m args below meth c B X => ?_)
  have hin10 : ∀ w ∈ wsX100, w ∈ wsX10_theoremHolds := by decide +kernel
  have hin6 : ∀ w ∈ wsX60, w ∈ wsX10_theoremHolds := by decide +kernel
  have lk0 : Cond.fieldLink RX10 120 "Cardcabinet$Row" "size" "I" ∈ wsX10_theoremHolds := by decide +kernel
  have lk1 : Cond.fieldLink RX10 30 "Cardcabinet" "copy" "LCardcabinet$Row;" ∈ wsX10_theoremHolds := by decide +kernel
  have lk2 : Cond.fieldLink RX10 139 "Cardcabinet$Order" "BY_FIRST" "LCardcabinet$Order;" ∈ wsX10_theoremHolds := by decide +kernel
  have lk3 : Cond.fieldLink RX10 179 "Cardcabinet$Order" "BY_SECOND" "LCardcabinet$Order;" ∈ wsX10_theoremHolds := by decide +kernel
  have lk4 : Cond.fieldLink RX10 34 "Cardcabinet" "otherCopy" "LCardcabinet$Row;" ∈ wsX10_theoremHolds := by decide +kernel
  have lk5 : Cond.fieldLink RX10 182 "Cardcabinet$Order" "BY_BOTH" "LCardcabinet$Order;" ∈ wsX10_theoremHolds := by decide +kernel
  have K0 : gG p l e ({ frames := 5, cells := 0, slots := 0, locals := 143 } : Room) s m args below meth c D (cyT cy) B 3 (eI D (cyT cy) (cW cy A aK X9) B below args s r σ') (cW cy A aK X9 σ) 0 0 0 [(0, .ref (A 0)), (1, .ref (A a1))] [] := by
    refine g_aload_n X dX10_theoremHolds_0 rfl 1 rfl ?_
    refine g_get X (AD := A) (h1).mem (cE_row cy A aK σ h1) hin6 rfl 1 (by decide) lk0 (fun _ h9 => h9) rfl dX10_theoremHolds_1 ?_
    refine g_istore_n X dX10_theoremHolds_4 rfl (by decide) (lv' := [(2, .int (gi σ (8 * a1 + 1))), (0, .ref (A 0)), (1, .ref (A a1))]) rfl ?_
    refine g_aload_n X dX10_theoremHolds_5 rfl 1 rfl ?_
    refine g_get X (AD := A) cm0 (cE_0 cy A aK σ) hin10 rfl 4 (by decide) lk1 (fun _ h9 => h9) rfl dX10_theoremHolds_6 ?_
    refine g_aload_n X dX10_theoremHolds_9 rfl 2 rfl ?_
    obtain ⟨r_2, σ_3, hf_1, h⟩ := bnd2_some h
    refine g_callVI (AD := A) (As := [.ref (A a1)]) X (ZC_ok _ _ _ _ _) (m_X6_become isRow24 h1 hf_1) (cwV 1 X.1.2.2.2.2 gX10_theoremHolds_X6_become rfl rfl rfl (by decide +kernel) ⟨Nat.le_of_ble_eq_true rfl, Nat.le_of_ble_eq_true rfl⟩) rfl (isRow24).mem (cE_row cy A aK σ isRow24) rfl rfl (Nat.le_of_ble_eq_true rfl) ⟨Nat.zero_le _, Nat.zero_le _⟩ dX10_theoremHolds_10 ?_
    refine g_pop X dX10_theoremHolds_13 rfl ?_
    refine g_aload_n X dX10_theoremHolds_14 rfl 1 rfl ?_
    refine g_aload_n X dX10_theoremHolds_15 rfl 1 rfl ?_
    refine g_get X (AD := A) cm0 (cE_0 cy A aK σ_3) hin10 rfl 4 (by decide) lk1 (fun _ h9 => h9) rfl dX10_theoremHolds_16 ?_
    refine g_iconst X dX10_theoremHolds_19 (v := (0 : Int32)) (by decide) ?_
    refine g_iload_n X dX10_theoremHolds_20 rfl 0 rfl ?_
    refine g_sO X (i := 0) (by decide) lk2 dX10_theoremHolds_21 ?_
    obtain ⟨r_5, σ_6, hf_4, h⟩ := bnd2_some h
    refine g_callVI (AD := A) (As := [.ref (A 24), .int (0 : Int32), .int (gi σ (8 * a1 + 1)), .ref (aO 0)]) X (ZC_ok _ _ _ _ _) (m_X10_arrangePart isRow24 (by decide) hf_4) (cwV 4 X.1.2.2.2.2 gX10_theoremHolds_X10_arrangePart rfl rfl rfl (by decide +kernel) ⟨Nat.le_of_ble_eq_true rfl, Nat.le_of_ble_eq_true rfl⟩) rfl cm0 (cE_0 cy A aK σ_3) rfl rfl (Nat.le_of_ble_eq_true rfl) ⟨Nat.zero_le _, Nat.zero_le _⟩ dX10_theoremHolds_24 ?_
    refine g_pop X dX10_theoremHolds_27 rfl ?_
    refine g_aload_n X dX10_theoremHolds_28 rfl 1 rfl ?_
    refine g_aload_n X dX10_theoremHolds_29 rfl 1 rfl ?_
    refine g_get X (AD := A) cm0 (cE_0 cy A aK σ_6) hin10 rfl 4 (by decide) lk1 (fun _ h9 => h9) rfl dX10_theoremHolds_30 ?_
    obtain ⟨r_8, hf_7, h⟩ := bnd_some h
    refine g_callVI (AD := A) (As := [.ref (A 24)]) X (ZC_ok _ _ _ _ _) (m_X10_rises isRow24 hf_7) (cwV 1 X.1.2.2.2.2 gX10_theoremHolds_X10_rises rfl rfl rfl (by decide +kernel) ⟨Nat.le_of_ble_eq_true rfl, Nat.le_of_ble_eq_true rfl⟩) rfl cm0 (cE_0 cy A aK σ_6) rfl rfl (Nat.le_of_ble_eq_true rfl) ⟨Nat.zero_le _, Nat.zero_le _⟩ dX10_theoremHolds_33 ?_
    refine g_if_eq X (tgt := 55) dX10_theoremHolds_36 (by decide) (fun hc_9 => ?_) (fun hc_9 => ?_)
    · have h := ift hc_9 h
      refine g_iconst X dX10_theoremHolds_55 (v := (0 : Int32)) (by decide) ?_
      cases h
      exact g_zret (Wf := cW cy A aK X9) X rfl ⟨rfl, rfl⟩ dX10_theoremHolds_56
    · have h := iff_ hc_9 h
      refine g_aload_n X dX10_theoremHolds_39 rfl 1 rfl ?_
      refine g_aload_n X dX10_theoremHolds_40 rfl 1 rfl ?_
      refine g_get X (AD := A) cm0 (cE_0 cy A aK σ_6) hin10 rfl 4 (by decide) lk1 (fun _ h9 => h9) rfl dX10_theoremHolds_41 ?_
      refine g_iconst X dX10_theoremHolds_44 (v := (0 : Int32)) (by decide) ?_
      refine g_iload_n X dX10_theoremHolds_45 rfl 0 rfl ?_
      refine g_sO X (i := 0) (by decide) lk2 dX10_theoremHolds_46 ?_
      obtain ⟨r_11, σ_12, hf_10, h⟩ := bnd2_some h
      refine g_callVI (AD := A) (As := [.ref (A 24), .int (0 : Int32), .int (gi σ (8 * a1 + 1)), .ref (aO 0)]) X (ZC_ok _ _ _ _ _) (m_X10_arrangePart isRow24 (by decide) hf_10) (cwV 4 X.1.2.2.2.2 gX10_theoremHolds_X10_arrangePart rfl rfl rfl (by decide +kernel) ⟨Nat.le_of_ble_eq_true rfl, Nat.le_of_ble_eq_true rfl⟩) rfl cm0 (cE_0 cy A aK σ_6) rfl rfl (Nat.le_of_ble_eq_true rfl) ⟨Nat.zero_le _, Nat.zero_le _⟩ dX10_theoremHolds_49 ?_
      refine g_if_eq X (tgt := 57) dX10_theoremHolds_52 (by decide) (fun hc_13 => ?_) (fun hc_13 => ?_)
      · have h := ift hc_13 h
        refine g_aload_n X dX10_theoremHolds_57 rfl 1 rfl ?_
        refine g_get X (AD := A) cm0 (cE_0 cy A aK σ_12) hin10 rfl 4 (by decide) lk1 (fun _ h9 => h9) rfl dX10_theoremHolds_58 ?_
        refine g_aload_n X dX10_theoremHolds_61 rfl 2 rfl ?_
        obtain ⟨r_15, σ_16, hf_14, h⟩ := bnd2_some h
        refine g_callVI (AD := A) (As := [.ref (A a1)]) X (ZC_ok _ _ _ _ _) (m_X6_become isRow24 h1 hf_14) (cwV 1 X.1.2.2.2.2 gX10_theoremHolds_X6_become rfl rfl rfl (by decide +kernel) ⟨Nat.le_of_ble_eq_true rfl, Nat.le_of_ble_eq_true rfl⟩) rfl (isRow24).mem (cE_row cy A aK σ_12 isRow24) rfl rfl (Nat.le_of_ble_eq_true rfl) ⟨Nat.zero_le _, Nat.zero_le _⟩ dX10_theoremHolds_62 ?_
        refine g_pop X dX10_theoremHolds_65 rfl ?_
        refine g_aload_n X dX10_theoremHolds_66 rfl 1 rfl ?_
        refine g_aload_n X dX10_theoremHolds_67 rfl 1 rfl ?_
        refine g_get X (AD := A) cm0 (cE_0 cy A aK σ_16) hin10 rfl 4 (by decide) lk1 (fun _ h9 => h9) rfl dX10_theoremHolds_68 ?_
        refine g_iconst X dX10_theoremHolds_71 (v := (0 : Int32)) (by decide) ?_
        refine g_iload_n X dX10_theoremHolds_72 rfl 0 rfl ?_
        refine g_sO X (i := 1) (by decide) lk3 dX10_theoremHolds_73 ?_
        obtain ⟨r_18, σ_19, hf_17, h⟩ := bnd2_some h
        refine g_callVI (AD := A) (As := [.ref (A 24), .int (0 : Int32), .int (gi σ (8 * a1 + 1)), .ref (aO 1)]) X (ZC_ok _ _ _ _ _) (m_X10_arrangePart isRow24 (by decide) hf_17) (cwV 4 X.1.2.2.2.2 gX10_theoremHolds_X10_arrangePart rfl rfl rfl (by decide +kernel) ⟨Nat.le_of_ble_eq_true rfl, Nat.le_of_ble_eq_true rfl⟩) rfl cm0 (cE_0 cy A aK σ_16) rfl rfl (Nat.le_of_ble_eq_true rfl) ⟨Nat.zero_le _, Nat.zero_le _⟩ dX10_theoremHolds_76 ?_
        refine g_pop X dX10_theoremHolds_79 rfl ?_
        refine g_aload_n X dX10_theoremHolds_80 rfl 1 rfl ?_
        refine g_aload_n X dX10_theoremHolds_81 rfl 1 rfl ?_
        refine g_get X (AD := A) cm0 (cE_0 cy A aK σ_19) hin10 rfl 4 (by decide) lk1 (fun _ h9 => h9) rfl dX10_theoremHolds_82 ?_
        refine g_iconst X dX10_theoremHolds_85 (v := (0 : Int32)) (by decide) ?_
        refine g_iload_n X dX10_theoremHolds_86 rfl 0 rfl ?_
        refine g_sO X (i := 0) (by decide) lk2 dX10_theoremHolds_87 ?_
        obtain ⟨r_21, σ_22, hf_20, h⟩ := bnd2_some h
        refine g_callVI (AD := A) (As := [.ref (A 24), .int (0 : Int32), .int (gi σ (8 * a1 + 1)), .ref (aO 0)]) X (ZC_ok _ _ _ _ _) (m_X10_arrangePart isRow24 (by decide) hf_20) (cwV 4 X.1.2.2.2.2 gX10_theoremHolds_X10_arrangePart rfl rfl rfl (by decide +kernel) ⟨Nat.le_of_ble_eq_true rfl, Nat.le_of_ble_eq_true rfl⟩) rfl cm0 (cE_0 cy A aK σ_19) rfl rfl (Nat.le_of_ble_eq_true rfl) ⟨Nat.zero_le _, Nat.zero_le _⟩ dX10_theoremHolds_90 ?_
        refine g_pop X dX10_theoremHolds_93 rfl ?_
        refine g_aload_n X dX10_theoremHolds_94 rfl 1 rfl ?_
        refine g_get X (AD := A) cm0 (cE_0 cy A aK σ_22) hin10 rfl 5 (by decide) lk4 (fun _ h9 => h9) rfl dX10_theoremHolds_95 ?_
        refine g_aload_n X dX10_theoremHolds_98 rfl 2 rfl ?_
        obtain ⟨r_24, σ_25, hf_23, h⟩ := bnd2_some h
        refine g_callVI (AD := A) (As := [.ref (A a1)]) X (ZC_ok _ _ _ _ _) (m_X6_become isRow25 h1 hf_23) (cwV 1 X.1.2.2.2.2 gX10_theoremHolds_X6_become rfl rfl rfl (by decide +kernel) ⟨Nat.le_of_ble_eq_true rfl, Nat.le_of_ble_eq_true rfl⟩) rfl (isRow25).mem (cE_row cy A aK σ_22 isRow25) rfl rfl (Nat.le_of_ble_eq_true rfl) ⟨Nat.zero_le _, Nat.zero_le _⟩ dX10_theoremHolds_99 ?_
        refine g_pop X dX10_theoremHolds_102 rfl ?_
        refine g_aload_n X dX10_theoremHolds_103 rfl 1 rfl ?_
        refine g_aload_n X dX10_theoremHolds_104 rfl 1 rfl ?_
        refine g_get X (AD := A) cm0 (cE_0 cy A aK σ_25) hin10 rfl 5 (by decide) lk4 (fun _ h9 => h9) rfl dX10_theoremHolds_105 ?_
        refine g_iconst X dX10_theoremHolds_108 (v := (0 : Int32)) (by decide) ?_
        refine g_iload_n X dX10_theoremHolds_109 rfl 0 rfl ?_
        refine g_sO X (i := 2) (by decide) lk5 dX10_theoremHolds_110 ?_
        obtain ⟨r_27, σ_28, hf_26, h⟩ := bnd2_some h
        refine g_callVI (AD := A) (As := [.ref (A 25), .int (0 : Int32), .int (gi σ (8 * a1 + 1)), .ref (aO 2)]) X (ZC_ok _ _ _ _ _) (m_X10_arrangePart isRow25 (by decide) hf_26) (cwV 4 X.1.2.2.2.2 gX10_theoremHolds_X10_arrangePart rfl rfl rfl (by decide +kernel) ⟨Nat.le_of_ble_eq_true rfl, Nat.le_of_ble_eq_true rfl⟩) rfl cm0 (cE_0 cy A aK σ_25) rfl rfl (Nat.le_of_ble_eq_true rfl) ⟨Nat.zero_le _, Nat.zero_le _⟩ dX10_theoremHolds_113 ?_
        refine g_pop X dX10_theoremHolds_116 rfl ?_
        refine g_aload_n X dX10_theoremHolds_117 rfl 1 rfl ?_
        refine g_get X (AD := A) cm0 (cE_0 cy A aK σ_28) hin10 rfl 4 (by decide) lk1 (fun _ h9 => h9) rfl dX10_theoremHolds_118 ?_
        refine g_aload_n X dX10_theoremHolds_121 rfl 1 rfl ?_
        refine g_get X (AD := A) cm0 (cE_0 cy A aK σ_28) hin10 rfl 5 (by decide) lk4 (fun _ h9 => h9) rfl dX10_theoremHolds_122 ?_
        obtain ⟨r_30, σ_31, hf_29, h⟩ := bnd2_some h
        refine g_callVI (AD := A) (As := [.ref (A 25)]) X (ZC_ok _ _ _ _ _) (m_X6_become isRow24 isRow25 hf_29) (cwV 1 X.1.2.2.2.2 gX10_theoremHolds_X6_become rfl rfl rfl (by decide +kernel) ⟨Nat.le_of_ble_eq_true rfl, Nat.le_of_ble_eq_true rfl⟩) rfl (isRow24).mem (cE_row cy A aK σ_28 isRow24) rfl rfl (Nat.le_of_ble_eq_true rfl) ⟨Nat.zero_le _, Nat.zero_le _⟩ dX10_theoremHolds_125 ?_
        obtain ⟨v_33, hj_36, h⟩ := bnd_some h
        have K_34 : gG p l e ({ frames := 5, cells := 0, slots := 0, locals := 143 } : Room) s m args below meth c D (cyT cy) B 3 (eI D (cyT cy) (cW cy A aK X9) B below args s r σ') (cW cy A aK X9 σ_31) 0 0 136 [] [.int v_33] := by
          obtain ⟨hg_35, h⟩ := grd_some h
          cases h
          exact g_zret (Wf := cW cy A aK X9) X (nar01 hg_35) ⟨rfl, rfl⟩ dX10_theoremHolds_136
        have h := hj_36
        clear hj_36
        refine g_if_ne X (tgt := 135) dX10_theoremHolds_128 (by decide) (fun hc_32 => ?_) (fun hc_32 => ?_)
        · have h := iff_ hc_32 h
          refine g_iconst X dX10_theoremHolds_135 (v := (0 : Int32)) (by decide) ?_
          cases h
          exact g_sub [] rfl K_34
        · have h := ift hc_32 h
          refine g_iconst X dX10_theoremHolds_131 (v := (1 : Int32)) (by decide) ?_
          refine g_goto X (tgt := 136) dX10_theoremHolds_132 (by decide) ?_
          cases h
          exact g_sub [] rfl K_34
      · have h := iff_ hc_13 h
        refine g_iconst X dX10_theoremHolds_55 (v := (0 : Int32)) (by decide) ?_
        cases h
        exact g_zret (Wf := cW cy A aK X9) X rfl ⟨rfl, rfl⟩ dX10_theoremHolds_56
  exact K0
end MV
