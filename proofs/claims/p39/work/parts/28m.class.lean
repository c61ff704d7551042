section MV
variable {D : va_G} {cy : Nat → ClassId} {A aK aO aS aV aT : Nat → Nat} {l : Launch} {X9 : va_W}
set_option maxHeartbeats 8000000 in
set_option maxRecDepth 100000 in
theorem m_X10_keep {σ : St} {a1 : Int32} {r : String ⊕ Int32} {σ' : St} (hl : l.stackTraces = false) (h : f_X10_keep a1 σ = some (r, σ')) : xI (ZC aK aO aS aV aT) D (cyT cy) l yX10_keep wsX10_keep ({ frames := 7, cells := thrC r, slots := thrS r, locals := 151 } : Room) (cW cy A aK X9) [.ref (A 0), .int a1] σ r σ' (thrC r) (thrS r) := by
  unfold f_X10_keep at h
  refine xI_of (cc := cX10_keep) (maxL := 3) (ret := (some .int)) (by decide) rfl (Nat.le_of_ble_eq_true rfl) (fun p e s m args below meth c B X hx0 => ?_)
  have hin10 : ∀ w ∈ wsX100, w ∈ wsX10_keep := by decide +kernel
  have hin6 : ∀ w ∈ wsX60, w ∈ wsX10_keep := by decide +kernel
  have lk0 : Cond.fieldLink RX10 22 "Cardcabinet" "keptRows" "[LCardcabinet$Row;" ∈ wsX10_keep := by decide +kernel
  have lk1 : Cond.fieldLink RX10 25 "Cardcabinet" "isKept" "[Z" ∈ wsX10_keep := by decide +kernel
  have lk2 : Cond.fieldLink RX10 120 "Cardcabinet$Row" "size" "I" ∈ wsX10_keep := by decide +kernel
  have K0 : gG p l e ({ frames := 7, cells := thrC r, slots := thrS r, locals := 151 } : Room) s m args below meth c D (cyT cy) B 3 (xeI D (cyT cy) (cW cy A aK X9) B below args s r σ' (thrC r) (thrS r)) (cW cy A aK X9 σ) 0 0 0 [(0, .ref (A 0)), (1, .int a1)] [] := by
    refine g_aload_n X dX10_keep_0 rfl 0 rfl ?_
    refine g_iload_n X dX10_keep_1 rfl 1 rfl ?_
    rcases bndX_some h with ⟨E_3, hf_1, h⟩ | ⟨r_2, hf_1, h⟩
    · cases h
      exact g_xVR_thr (AD := A) (As := [.int a1]) X (ZC_ok _ _ _ _ _) hx0 (m_X10_rowAt hl hf_1) (cwV 1 X.1.2.2.2.2 gX10_keep_X10_rowAt rfl rfl rfl (by decide +kernel) ⟨Nat.le_of_ble_eq_true rfl, Nat.le_of_ble_eq_true rfl⟩) rfl cm0 (cE_0 cy A aK _) rfl rfl (Nat.le_of_ble_eq_true rfl) ⟨thrC_l (β := Int32) _ "", thrS_l (β := Int32) _ ""⟩ dX10_keep_2 rfl rfl (thrC_l (β := Int32) _ "") (thrS_l (β := Int32) _ "")
    refine g_xVR_ret (AD := A) (As := [.int a1]) X (ZC_ok _ _ _ _ _) (m_X10_rowAt hl hf_1) (cwV 1 X.1.2.2.2.2 gX10_keep_X10_rowAt rfl rfl rfl (by decide +kernel) ⟨Nat.le_of_ble_eq_true rfl, Nat.le_of_ble_eq_true rfl⟩) rfl cm0 (cE_0 cy A aK σ) rfl rfl (Nat.le_of_ble_eq_true rfl) ⟨thrC_r _ _, thrS_r _ _⟩ dX10_keep_2 (k' := 0) (n' := 0) (thrC_r _ _) (thrS_r _ _) ?_
    refine g_astore_n X dX10_keep_5 rfl (by decide) (lv' := [(2, .ref (A r_2)), (0, .ref (A 0)), (1, .int a1)]) rfl ?_
    refine g_aload_n X dX10_keep_6 rfl 1 rfl ?_
    refine g_get X (AD := A) cm0 (cE_0 cy A aK σ) hin10 rfl 2 (by decide) lk0 (fun _ h9 => h9) rfl dX10_keep_7 ?_
    refine g_iload_n X dX10_keep_10 rfl 2 rfl ?_
    obtain ⟨hg_4, h⟩ := grd_some h
    refine g_aald X (AD := A) cm5 (cE_5 cy A aK σ) 3 rfl hg_4 (v := .ref (A (20 + a1.toNatClampNeg))) rfl dX10_keep_11 ?_
    refine g_aload_n X dX10_keep_12 rfl 0 rfl ?_
    obtain ⟨r_6, σ_7, hf_5, h⟩ := bnd2_some h
    refine g_callVI (AD := A) (As := [.ref (A r_2)]) X (ZC_ok _ _ _ _ _) (m_X6_become (isRow_k hg_4) (f_X10_rowAt_row hf_1) hf_5) (cwV 1 X.1.2.2.2.2 gX10_keep_X6_become rfl rfl rfl (by decide +kernel) ⟨Nat.le_of_ble_eq_true rfl, Nat.le_of_ble_eq_true rfl⟩) rfl ((isRow_k hg_4)).mem (cE_row cy A aK σ (isRow_k hg_4)) rfl rfl (Nat.le_of_ble_eq_true rfl) ⟨Nat.zero_le _, Nat.zero_le _⟩ dX10_keep_13 ?_
    refine g_pop X dX10_keep_16 rfl ?_
    refine g_aload_n X dX10_keep_17 rfl 1 rfl ?_
    refine g_get X (AD := A) cm0 (cE_0 cy A aK σ_7) hin10 rfl 3 (by decide) lk1 (fun _ h9 => h9) rfl dX10_keep_18 ?_
    refine g_iload_n X dX10_keep_21 rfl 2 rfl ?_
    refine g_iconst X dX10_keep_22 (v := (1 : Int32)) (by decide) ?_
    obtain ⟨hg_8, h⟩ := grd_some h
    refine g_zast X (AD := A) (σ' := sr σ_7 6 (upd (gr σ_7 6) a1.toNatClampNeg (vp_nar .boolean (1 : Int32)))) cm6 (cE_6 cy A aK σ_7) 2 rfl hg_8 (st_c6 cy A aK σ_7 (upd (gr σ_7 6) a1.toNatClampNeg (vp_nar .boolean (1 : Int32)))) dX10_keep_23 ?_
    obtain ⟨σ_9, e_10, h⟩ := bnd_some h
    have e_10 := Option.some.inj e_10
    rw [e_10]
    refine g_aload_n X dX10_keep_24 rfl 0 rfl ?_
    refine g_get X (AD := A) ((f_X10_rowAt_row hf_1)).mem (cE_row cy A aK σ_9 (f_X10_rowAt_row hf_1)) hin6 rfl 1 (by decide) lk2 (fun _ h9 => h9) rfl dX10_keep_25 ?_
    cases h
    exact g_xret (g_iret (Wf := cW cy A aK X9) X ⟨rfl, rfl⟩ dX10_keep_28)
  exact K0
set_option maxHeartbeats 8000000 in
set_option maxRecDepth 100000 in
theorem m_X10_restore {σ : St} {a1 : Int32} {r : String ⊕ Int32} {σ' : St} (hl : l.stackTraces = false) (h : f_X10_restore a1 σ = some (r, σ')) : xI (ZC aK aO aS aV aT) D (cyT cy) l yX10_restore wsX10_restore ({ frames := 7, cells := thrC r, slots := thrS r, locals := 151 } : Room) (cW cy A aK X9) [.ref (A 0), .int a1] σ r σ' (thrC r) (thrS r) := by
  unfold f_X10_restore at h
  refine xI_of (cc := cX10_restore) (maxL := 3) (ret := (some .int)) (by decide) rfl (Nat.le_of_ble_eq_true rfl) (fun p e s m args below meth c B X hx0 => ?_)
  have hin10 : ∀ w ∈ wsX100, w ∈ wsX10_restore := by decide +kernel
  have lk0 : Cond.fieldLink RX10 25 "Cardcabinet" "isKept" "[Z" ∈ wsX10_restore := by decide +kernel
  have lk1 : Cond.fieldLink RX10 22 "Cardcabinet" "keptRows" "[LCardcabinet$Row;" ∈ wsX10_restore := by decide +kernel
  have lk2 : Cond.classLink RX10 77 "java/lang/IllegalStateException" ∈ wsX10_restore := by decide +kernel
  have lk3 : Cond.initialized "java/lang/IllegalStateException" ∈ wsX10_restore := by decide +kernel
  have lk4 : ∀ w ∈ (vx_atS RX10 81 "java/lang/IllegalStateException" ["java/lang/RuntimeException", "java/lang/Exception"]).filter goodWord, w ∈ wsX10_restore := by decide +kernel
  have K0 : gG p l e ({ frames := 7, cells := thrC r, slots := thrS r, locals := 151 } : Room) s m args below meth c D (cyT cy) B 3 (xeI D (cyT cy) (cW cy A aK X9) B below args s r σ' (thrC r) (thrS r)) (cW cy A aK X9 σ) 0 0 0 [(0, .ref (A 0)), (1, .int a1)] [] := by
    refine g_aload_n X dX10_restore_0 rfl 0 rfl ?_
    refine g_iload_n X dX10_restore_1 rfl 1 rfl ?_
    rcases bndX_some h with ⟨E_3, hf_1, h⟩ | ⟨r_2, hf_1, h⟩
    · cases h
      exact g_xVR_thr (AD := A) (As := [.int a1]) X (ZC_ok _ _ _ _ _) hx0 (m_X10_rowAt hl hf_1) (cwV 1 X.1.2.2.2.2 gX10_restore_X10_rowAt rfl rfl rfl (by decide +kernel) ⟨Nat.le_of_ble_eq_true rfl, Nat.le_of_ble_eq_true rfl⟩) rfl cm0 (cE_0 cy A aK _) rfl rfl (Nat.le_of_ble_eq_true rfl) ⟨thrC_l (β := Int32) _ "", thrS_l (β := Int32) _ ""⟩ dX10_restore_2 rfl rfl (thrC_l (β := Int32) _ "") (thrS_l (β := Int32) _ "")
    refine g_xVR_ret (AD := A) (As := [.int a1]) X (ZC_ok _ _ _ _ _) (m_X10_rowAt hl hf_1) (cwV 1 X.1.2.2.2.2 gX10_restore_X10_rowAt rfl rfl rfl (by decide +kernel) ⟨Nat.le_of_ble_eq_true rfl, Nat.le_of_ble_eq_true rfl⟩) rfl cm0 (cE_0 cy A aK σ) rfl rfl (Nat.le_of_ble_eq_true rfl) ⟨thrC_r _ _, thrS_r _ _⟩ dX10_restore_2 (k' := 0) (n' := 0) (thrC_r _ _) (thrS_r _ _) ?_
    refine g_astore_n X dX10_restore_5 rfl (by decide) (lv' := [(2, .ref (A r_2)), (0, .ref (A 0)), (1, .int a1)]) rfl ?_
    refine g_aload_n X dX10_restore_6 rfl 1 rfl ?_
    refine g_get X (AD := A) cm0 (cE_0 cy A aK σ) hin10 rfl 3 (by decide) lk0 (fun _ h9 => h9) rfl dX10_restore_7 ?_
    refine g_iload_n X dX10_restore_10 rfl 2 rfl ?_
    obtain ⟨hg_4, h⟩ := grd_some h
    refine g_zald X (AD := A) cm6 (cE_6 cy A aK σ) 2 rfl hg_4 dX10_restore_11 ?_
    refine g_if_ne X (tgt := 25) dX10_restore_12 (by decide) (fun hc_5 => ?_) (fun hc_5 => ?_)
    · have h := iff_ hc_5 h
      refine g_aload_n X dX10_restore_25 rfl 0 rfl ?_
      refine g_aload_n X dX10_restore_26 rfl 1 rfl ?_
      refine g_get X (AD := A) cm0 (cE_0 cy A aK σ) hin10 rfl 2 (by decide) lk1 (fun _ h9 => h9) rfl dX10_restore_27 ?_
      refine g_iload_n X dX10_restore_30 rfl 2 rfl ?_
      obtain ⟨hg_6, h⟩ := grd_some h
      refine g_aald X (AD := A) cm5 (cE_5 cy A aK σ) 3 rfl hg_6 (v := .ref (A (20 + a1.toNatClampNeg))) rfl dX10_restore_31 ?_
      obtain ⟨r_8, σ_9, hf_7, h⟩ := bnd2_some h
      refine g_callVI (AD := A) (As := [.ref (A (20 + a1.toNatClampNeg))]) X (ZC_ok _ _ _ _ _) (m_X6_become (f_X10_rowAt_row hf_1) (isRow_k hg_6) hf_7) (cwV 1 X.1.2.2.2.2 gX10_restore_X6_become rfl rfl rfl (by decide +kernel) ⟨Nat.le_of_ble_eq_true rfl, Nat.le_of_ble_eq_true rfl⟩) rfl ((f_X10_rowAt_row hf_1)).mem (cE_row cy A aK σ (f_X10_rowAt_row hf_1)) rfl rfl (Nat.le_of_ble_eq_true rfl) ⟨Nat.zero_le _, Nat.zero_le _⟩ dX10_restore_32 ?_
      cases h
      exact g_xret (g_iret (Wf := cW cy A aK X9) X ⟨rfl, rfl⟩ dX10_restore_35)
    · have h := ift hc_5 h
      cases h
      exact g_thr_ISE (AD := A) X hl hx0 (is9 := 214) (tx := "the row was never kept") (by decide) lk2 lk3 lk4 dX10_restore_15 dX10_restore_18 dX10_restore_19 dX10_restore_21 dX10_restore_24 (by decide) (Nat.le_of_ble_eq_true rfl) ⟨thrC_t (β := Int32) "", thrS_t (β := Int32) ""⟩ rfl rfl (thrC_t (β := Int32) "") (thrS_t (β := Int32) "")
  exact K0
set_option maxHeartbeats 8000000 in
set_option maxRecDepth 100000 in
theorem m_X10_count {σ : St} {a1 : Int32} {r : String ⊕ Int32} (hl : l.stackTraces = false) (h : f_X10_count a1 σ = some r) : xI (ZC aK aO aS aV aT) D (cyT cy) l yX10_count wsX10_count ({ frames := 7, cells := thrC r, slots := thrS r, locals := 151 } : Room) (cW cy A aK X9) [.ref (A 0), .int a1] σ r σ (thrC r) (thrS r) := by
  unfold f_X10_count at h
  refine xI_of (cc := cX10_count) (maxL := 2) (ret := (some .int)) (by decide) rfl (Nat.le_of_ble_eq_true rfl) (fun p e s m args below meth c B X hx0 => ?_)
  have hin6 : ∀ w ∈ wsX60, w ∈ wsX10_count := by decide +kernel
  have lk0 : Cond.fieldLink RX10 120 "Cardcabinet$Row" "size" "I" ∈ wsX10_count := by decide +kernel
  have K0 : gG p l e ({ frames := 7, cells := thrC r, slots := thrS r, locals := 151 } : Room) s m args below meth c D (cyT cy) B 2 (xeI D (cyT cy) (cW cy A aK X9) B below args s r σ (thrC r) (thrS r)) (cW cy A aK X9 σ) 0 0 0 [(0, .ref (A 0)), (1, .int a1)] [] := by
    refine g_aload_n X dX10_count_0 rfl 0 rfl ?_
    refine g_iload_n X dX10_count_1 rfl 1 rfl ?_
    rcases bndX_some h with ⟨E_3, hf_1, h⟩ | ⟨r_2, hf_1, h⟩
    · cases h
      exact g_xVR_thr (AD := A) (As := [.int a1]) X (ZC_ok _ _ _ _ _) hx0 (m_X10_rowAt hl hf_1) (cwV 1 X.1.2.2.2.2 gX10_count_X10_rowAt rfl rfl rfl (by decide +kernel) ⟨Nat.le_of_ble_eq_true rfl, Nat.le_of_ble_eq_true rfl⟩) rfl cm0 (cE_0 cy A aK _) rfl rfl (Nat.le_of_ble_eq_true rfl) ⟨thrC_l (β := Int32) _ "", thrS_l (β := Int32) _ ""⟩ dX10_count_2 rfl rfl (thrC_l (β := Int32) _ "") (thrS_l (β := Int32) _ "")
    refine g_xVR_ret (AD := A) (As := [.int a1]) X (ZC_ok _ _ _ _ _) (m_X10_rowAt hl hf_1) (cwV 1 X.1.2.2.2.2 gX10_count_X10_rowAt rfl rfl rfl (by decide +kernel) ⟨Nat.le_of_ble_eq_true rfl, Nat.le_of_ble_eq_true rfl⟩) rfl cm0 (cE_0 cy A aK σ) rfl rfl (Nat.le_of_ble_eq_true rfl) ⟨thrC_r _ _, thrS_r _ _⟩ dX10_count_2 (k' := 0) (n' := 0) (thrC_r _ _) (thrS_r _ _) ?_
    refine g_get X (AD := A) ((f_X10_rowAt_row hf_1)).mem (cE_row cy A aK σ (f_X10_rowAt_row hf_1)) hin6 rfl 1 (by decide) lk0 (fun _ h9 => h9) rfl dX10_count_5 ?_
    cases h
    exact g_xret (g_iret (Wf := cW cy A aK X9) X ⟨rfl, rfl⟩ dX10_count_8)
  exact K0
set_option maxHeartbeats 8000000 in
set_option maxRecDepth 100000 in
theorem m_X10_cardAt {σ : St} {a1 : Int32} {a2 : Int32} {a3 : Int32} {r : String ⊕ Int32} (hl : l.stackTraces = false) (h : f_X10_cardAt a1 a2 a3 σ = some r) : xI (ZC aK aO aS aV aT) D (cyT cy) l yX10_cardAt wsX10_cardAt ({ frames := 7, cells := thrC r, slots := thrS r, locals := 151 } : Room) (cW cy A aK X9) [.ref (A 0), .int a1, .int a2, .int a3] σ r σ (thrC r) (thrS r) := by
  unfold f_X10_cardAt at h
  refine xI_of (cc := cX10_cardAt) (maxL := 6) (ret := (some .int)) (by decide) rfl (Nat.le_of_ble_eq_true rfl) (fun p e s m args below meth c B X hx0 => ?_)
  have hin10 : ∀ w ∈ wsX100, w ∈ wsX10_cardAt := by decide +kernel
  have hin6 : ∀ w ∈ wsX60, w ∈ wsX10_cardAt := by decide +kernel
  have lk0 : Cond.fieldLink RX10 188 "Cardcabinet$Row" "marks" "[I" ∈ wsX10_cardAt := by decide +kernel
  have lk1 : Cond.fieldLink RX10 12 "Cardcabinet" "deck" "LCardcabinet$Deck;" ∈ wsX10_cardAt := by decide +kernel
  have lk2 : Cond.classLink RX10 171 "java/lang/IllegalArgumentException" ∈ wsX10_cardAt := by decide +kernel
  have lk3 : Cond.initialized "java/lang/IllegalArgumentException" ∈ wsX10_cardAt := by decide +kernel
  have lk4 : ∀ w ∈ (vx_atS RX10 175 "java/lang/IllegalArgumentException" ["java/lang/RuntimeException", "java/lang/Exception"]).filter goodWord, w ∈ wsX10_cardAt := by decide +kernel
  have K0 : gG p l e ({ frames := 7, cells := thrC r, slots := thrS r, locals := 151 } : Room) s m args below meth c D (cyT cy) B 6 (xeI D (cyT cy) (cW cy A aK X9) B below args s r σ (thrC r) (thrS r)) (cW cy A aK X9 σ) 0 0 0 [(0, .ref (A 0)), (1, .int a1), (2, .int a2), (3, .int a3)] [] := by
    refine g_aload_n X dX10_cardAt_0 rfl 0 rfl ?_
    refine g_iload_n X dX10_cardAt_1 rfl 1 rfl ?_
    rcases bndX_some h with ⟨E_3, hf_1, h⟩ | ⟨r_2, hf_1, h⟩
    · cases h
      exact g_xVR_thr (AD := A) (As := [.int a1]) X (ZC_ok _ _ _ _ _) hx0 (m_X10_rowAt hl hf_1) (cwV 1 X.1.2.2.2.2 gX10_cardAt_X10_rowAt rfl rfl rfl (by decide +kernel) ⟨Nat.le_of_ble_eq_true rfl, Nat.le_of_ble_eq_true rfl⟩) rfl cm0 (cE_0 cy A aK _) rfl rfl (Nat.le_of_ble_eq_true rfl) ⟨thrC_l (β := Int32) _ "", thrS_l (β := Int32) _ ""⟩ dX10_cardAt_2 rfl rfl (thrC_l (β := Int32) _ "") (thrS_l (β := Int32) _ "")
    refine g_xVR_ret (AD := A) (As := [.int a1]) X (ZC_ok _ _ _ _ _) (m_X10_rowAt hl hf_1) (cwV 1 X.1.2.2.2.2 gX10_cardAt_X10_rowAt rfl rfl rfl (by decide +kernel) ⟨Nat.le_of_ble_eq_true rfl, Nat.le_of_ble_eq_true rfl⟩) rfl cm0 (cE_0 cy A aK σ) rfl rfl (Nat.le_of_ble_eq_true rfl) ⟨thrC_r _ _, thrS_r _ _⟩ dX10_cardAt_2 (k' := 0) (n' := 0) (thrC_r _ _) (thrS_r _ _) ?_
    refine g_astore X dX10_cardAt_5 (by decide) (lv' := [(4, .ref (A r_2)), (0, .ref (A 0)), (1, .int a1), (2, .int a2), (3, .int a3)]) rfl ?_
    refine g_aload X dX10_cardAt_7 0 rfl ?_
    refine g_iload_n X dX10_cardAt_9 rfl 3 rfl ?_
    rcases bndX_some h with ⟨E_6, hf_4, h⟩ | ⟨r_5, hf_4, h⟩
    · cases h
      exact g_xSV_thr (AD := A) (As := [.ref (A r_2), .int a2]) X (ZC_ok _ _ _ _ _) hx0 (m_X10_needPlace (f_X10_rowAt_row hf_1) hl hf_4) (va_cwS 2 X.1.2.2.2.2 gX10_cardAt_X10_needPlace rfl rfl rfl (by decide +kernel) ⟨Nat.le_of_ble_eq_true rfl, Nat.le_of_ble_eq_true rfl⟩) rfl rfl (Nat.le_of_ble_eq_true rfl) ⟨thrC_l (β := Int32) _ "", thrS_l (β := Int32) _ ""⟩ dX10_cardAt_10 rfl rfl (thrC_l (β := Int32) _ "") (thrS_l (β := Int32) _ "")
    refine g_xSV_ret (AD := A) (As := [.ref (A r_2), .int a2]) X (ZC_ok _ _ _ _ _) (m_X10_needPlace (f_X10_rowAt_row hf_1) hl hf_4) (va_cwS 2 X.1.2.2.2.2 gX10_cardAt_X10_needPlace rfl rfl rfl (by decide +kernel) ⟨Nat.le_of_ble_eq_true rfl, Nat.le_of_ble_eq_true rfl⟩) rfl rfl (Nat.le_of_ble_eq_true rfl) ⟨thrC_r _ _, thrS_r _ _⟩ dX10_cardAt_10 (k' := 0) (n' := 0) (thrC_r _ _) (thrS_r _ _) ?_
    refine g_aload X dX10_cardAt_13 0 rfl ?_
    refine g_get X (AD := A) ((f_X10_rowAt_row hf_1)).mem (cE_row cy A aK σ (f_X10_rowAt_row hf_1)) hin6 rfl 0 (by decide) lk0 (fun _ h9 => h9) rfl dX10_cardAt_15 ?_
    refine g_iload_n X dX10_cardAt_18 rfl 3 rfl ?_
    obtain ⟨hg_7, h⟩ := grd_some h
    refine g_iald X (AD := A) ((isRow.mk (f_X10_rowAt_row hf_1))).mem (cE_mk cy A aK σ (isRow.mk (f_X10_rowAt_row hf_1))) 0 rfl hg_7 dX10_cardAt_19 ?_
    refine g_istore X dX10_cardAt_20 (by decide) (lv' := [(5, .int (gr σ (r_2 + 16) a2.toNatClampNeg)), (4, .ref (A r_2)), (0, .ref (A 0)), (1, .int a1), (2, .int a2), (3, .int a3)]) rfl ?_
    refine g_iload_n X dX10_cardAt_22 rfl 5 rfl ?_
    by_cases hc_10 : a3 = 0
    · have h := ift hc_10 h
      refine g_tabIn X (offq := 25) (tgt := 48) dX10_cardAt_23 (by rw [hc_10]; decide) (by rw [hc_10]; decide) (by rw [hc_10]; rfl) (by decide) ?_
      refine g_aload_n X dX10_cardAt_48 rfl 2 rfl ?_
      refine g_get X (AD := A) cm0 (cE_0 cy A aK σ) hin10 rfl 0 (by decide) lk1 (fun _ h9 => h9) rfl dX10_cardAt_49 ?_
      refine g_iload X dX10_cardAt_52 0 rfl ?_
      obtain ⟨r_9, hf_8, h⟩ := bnd_some h
      refine g_callVI (AD := A) (As := [.int (gr σ (r_2 + 16) a2.toNatClampNeg)]) X (ZC_ok _ _ _ _ _) (m_X1_firstOf hf_8) (cwV 1 X.1.2.2.2.2 gX10_cardAt_X1_firstOf rfl rfl rfl (by decide +kernel) ⟨Nat.le_of_ble_eq_true rfl, Nat.le_of_ble_eq_true rfl⟩) rfl cm1 (cE_1 cy A aK σ) rfl rfl (Nat.le_of_ble_eq_true rfl) ⟨Nat.zero_le _, Nat.zero_le _⟩ dX10_cardAt_54 ?_
      cases h
      exact g_xret (g_iret (Wf := cW cy A aK X9) X ⟨rfl, rfl⟩ dX10_cardAt_57)
    have h := iff_ hc_10 h
    by_cases hc_13 : a3 = 1
    · have h := ift hc_13 h
      refine g_tabIn X (offq := 35) (tgt := 58) dX10_cardAt_23 (by rw [hc_13]; decide) (by rw [hc_13]; decide) (by rw [hc_13]; rfl) (by decide) ?_
      refine g_aload_n X dX10_cardAt_58 rfl 2 rfl ?_
      refine g_get X (AD := A) cm0 (cE_0 cy A aK σ) hin10 rfl 0 (by decide) lk1 (fun _ h9 => h9) rfl dX10_cardAt_59 ?_
      refine g_iload X dX10_cardAt_62 0 rfl ?_
      obtain ⟨r_12, hf_11, h⟩ := bnd_some h
      refine g_callVI (AD := A) (As := [.int (gr σ (r_2 + 16) a2.toNatClampNeg)]) X (ZC_ok _ _ _ _ _) (m_X1_secondOf hf_11) (cwV 1 X.1.2.2.2.2 gX10_cardAt_X1_secondOf rfl rfl rfl (by decide +kernel) ⟨Nat.le_of_ble_eq_true rfl, Nat.le_of_ble_eq_true rfl⟩) rfl cm1 (cE_1 cy A aK σ) rfl rfl (Nat.le_of_ble_eq_true rfl) ⟨Nat.zero_le _, Nat.zero_le _⟩ dX10_cardAt_64 ?_
      cases h
      exact g_xret (g_iret (Wf := cW cy A aK X9) X ⟨rfl, rfl⟩ dX10_cardAt_67)
    have h := iff_ hc_13 h
    by_cases hc_14 : a3 = 2
    · have h := ift hc_14 h
      refine g_tabIn X (offq := 45) (tgt := 68) dX10_cardAt_23 (by rw [hc_14]; decide) (by rw [hc_14]; decide) (by rw [hc_14]; rfl) (by decide) ?_
      refine g_iload X dX10_cardAt_68 0 rfl ?_
      cases h
      exact g_xret (g_iret (Wf := cW cy A aK X9) X ⟨rfl, rfl⟩ dX10_cardAt_70)
    have h := iff_ hc_14 h
    have hn_15 : a3.toInt ≠ 0 := i32ne hc_10
    have hn_16 : a3.toInt ≠ 1 := i32ne hc_13
    have hn_17 : a3.toInt ≠ 2 := i32ne hc_14
    refine g_tabOut X (tgt := 71) dX10_cardAt_23 (by omega) (by decide) ?_
    cases h
    exact g_thr_IAE (AD := A) X hl hx0 (is9 := 216) (tx := "no such thing to tell") (by decide) lk2 lk3 lk4 dX10_cardAt_71 dX10_cardAt_74 dX10_cardAt_75 dX10_cardAt_77 dX10_cardAt_80 (by decide) (Nat.le_of_ble_eq_true rfl) ⟨thrC_t (β := Int32) "", thrS_t (β := Int32) ""⟩ rfl rfl (thrC_t (β := Int32) "") (thrS_t (β := Int32) "")
  exact K0
set_option maxHeartbeats 8000000 in
set_option maxRecDepth 100000 in
theorem m_X10_placeOf {σ : St} {a1 : Int32} {a2 : Int32} {r : String ⊕ Int32} (hl : l.stackTraces = false) (h : f_X10_placeOf a1 a2 σ = some r) : xI (ZC aK aO aS aV aT) D (cyT cy) l yX10_placeOf wsX10_placeOf ({ frames := 7, cells := thrC r, slots := thrS r, locals := 151 } : Room) (cW cy A aK X9) [.ref (A 0), .int a1, .int a2] σ r σ (thrC r) (thrS r) := by
  unfold f_X10_placeOf at h
  refine xI_of (cc := cX10_placeOf) (maxL := 5) (ret := (some .int)) (by decide) rfl (Nat.le_of_ble_eq_true rfl) (fun p e s m args below meth c B X hx0 => ?_)
  have hin6 : ∀ w ∈ wsX60, w ∈ wsX10_placeOf := by decide +kernel
  have lk0 : Cond.fieldLink RX10 120 "Cardcabinet$Row" "size" "I" ∈ wsX10_placeOf := by decide +kernel
  have lk1 : Cond.fieldLink RX10 188 "Cardcabinet$Row" "marks" "[I" ∈ wsX10_placeOf := by decide +kernel
  have K0 : gG p l e ({ frames := 7, cells := thrC r, slots := thrS r, locals := 151 } : Room) s m args below meth c D (cyT cy) B 5 (xeI D (cyT cy) (cW cy A aK X9) B below args s r σ (thrC r) (thrS r)) (cW cy A aK X9 σ) 0 0 0 [(0, .ref (A 0)), (1, .int a1), (2, .int a2)] [] := by
    refine g_aload_n X dX10_placeOf_0 rfl 0 rfl ?_
    refine g_iload_n X dX10_placeOf_1 rfl 1 rfl ?_
    rcases bndX_some h with ⟨E_3, hf_1, h⟩ | ⟨r_2, hf_1, h⟩
    · cases h
      exact g_xVR_thr (AD := A) (As := [.int a1]) X (ZC_ok _ _ _ _ _) hx0 (m_X10_rowAt hl hf_1) (cwV 1 X.1.2.2.2.2 gX10_placeOf_X10_rowAt rfl rfl rfl (by decide +kernel) ⟨Nat.le_of_ble_eq_true rfl, Nat.le_of_ble_eq_true rfl⟩) rfl cm0 (cE_0 cy A aK _) rfl rfl (Nat.le_of_ble_eq_true rfl) ⟨thrC_l (β := Int32) _ "", thrS_l (β := Int32) _ ""⟩ dX10_placeOf_2 rfl rfl (thrC_l (β := Int32) _ "") (thrS_l (β := Int32) _ "")
    refine g_xVR_ret (AD := A) (As := [.int a1]) X (ZC_ok _ _ _ _ _) (m_X10_rowAt hl hf_1) (cwV 1 X.1.2.2.2.2 gX10_placeOf_X10_rowAt rfl rfl rfl (by decide +kernel) ⟨Nat.le_of_ble_eq_true rfl, Nat.le_of_ble_eq_true rfl⟩) rfl cm0 (cE_0 cy A aK σ) rfl rfl (Nat.le_of_ble_eq_true rfl) ⟨thrC_r _ _, thrS_r _ _⟩ dX10_placeOf_2 (k' := 0) (n' := 0) (thrC_r _ _) (thrS_r _ _) ?_
    refine g_astore_n X dX10_placeOf_5 rfl (by decide) (lv' := [(3, .ref (A r_2)), (0, .ref (A 0)), (1, .int a1), (2, .int a2)]) rfl ?_
    refine g_iconst X dX10_placeOf_6 (v := (0 : Int32)) (by decide) ?_
    refine g_istore X dX10_placeOf_7 (by decide) (lv' := [(4, .int (0 : Int32)), (3, .ref (A r_2)), (0, .ref (A 0)), (1, .int a1), (2, .int a2)]) rfl ?_
    have L_13 : ∀ (c_4 : Int32) (c_5 : Nat) (hp_6 : isRow c_5) (σ_8 : St) (hq_15 : σ_8 = σ) (n_9 : Nat) (v_7 : Int32) (o_19 : (String ⊕ Int32) ⊕ (Unit)), f_X10_placeOf_L9 c_4 c_5 σ_8 n_9 v_7 = some o_19 → (∀ (u_14 : Unit), o_19 = .inr (u_14) → gG p l e ({ frames := 7, cells := thrC r, slots := thrS r, locals := 151 } : Room) s m args below meth c D (cyT cy) B 5 (xeI D (cyT cy) (cW cy A aK X9) B below args s r σ (thrC r) (thrS r)) (cW cy A aK X9 σ_8) 0 0 38 [] []) → (∀ r8, o_19 = .inl r8 → r8 = r) → gG p l e ({ frames := 7, cells := thrC r, slots := thrS r, locals := 151 } : Room) s m args below meth c D (cyT cy) B 5 (xeI D (cyT cy) (cW cy A aK X9) B below args s r σ (thrC r) (thrS r)) (cW cy A aK X9 σ_8) 0 0 9 [(2, .int c_4), (3, .ref (A c_5)), (4, .int v_7)] [] := by
      intro c_4 c_5 hp_6 σ_8 hq_15 n_9
      induction n_9 with
      | zero =>
        intro v_7 o_19 h K_11 K_12
        rw [f_X10_placeOf_L9] at h
        cases h
      | succ n_9 ih_10 =>
        intro v_7 o_19 h K_11 K_12
        rw [f_X10_placeOf_L9] at h
        refine g_iload X dX10_placeOf_9 2 rfl ?_
        refine g_aload_n X dX10_placeOf_11 rfl 1 rfl ?_
        refine g_get X (AD := A) (hp_6).mem (cE_row cy A aK σ_8 hp_6) hin6 rfl 1 (by decide) lk0 (fun _ h9 => h9) rfl dX10_placeOf_12 ?_
        refine g_icmp_ge X (tgt := 38) dX10_placeOf_15 (by decide) (fun hc_16 => ?_) (fun hc_16 => ?_)
        · have h := ift hc_16 h
          cases h
          exact g_sub [] rfl (K_11 _ rfl)
        · have h := iff_ hc_16 h
          refine g_aload_n X dX10_placeOf_18 rfl 1 rfl ?_
          refine g_get X (AD := A) (hp_6).mem (cE_row cy A aK σ_8 hp_6) hin6 rfl 0 (by decide) lk1 (fun _ h9 => h9) rfl dX10_placeOf_19 ?_
          refine g_iload X dX10_placeOf_22 2 rfl ?_
          obtain ⟨hg_17, h⟩ := grd_some h
          refine g_iald X (AD := A) ((isRow.mk hp_6)).mem (cE_mk cy A aK σ_8 (isRow.mk hp_6)) 0 rfl hg_17 dX10_placeOf_24 ?_
          refine g_iload_n X dX10_placeOf_25 rfl 0 rfl ?_
          refine g_icmp_ne X (tgt := 32) dX10_placeOf_26 (by decide) (fun hc_18 => ?_) (fun hc_18 => ?_)
          · have h := iff_ hc_18 h
            refine g_iinc X dX10_placeOf_32 2 rfl (v := v_7 + (1 : Int32)) rfl (by decide) (lv' := [(4, .int (v_7 + (1 : Int32))), (2, .int c_4), (3, .ref (A c_5))]) rfl ?_
            refine g_goto X (tgt := 9) dX10_placeOf_35 (by decide) ?_
            exact g_sub [1, 2, 0] rfl (ih_10 _ _ h K_11 K_12)
          · have h := ift hc_18 h
            refine g_iload X dX10_placeOf_29 2 rfl ?_
            cases h
            cases K_12 _ rfl
            exact g_xret (g_iret (Wf := cW cy A aK X9) X ⟨rfl, hq_15⟩ dX10_placeOf_31)
    rcases bndR_some h with ⟨r9, hl_20, he9⟩ | ⟨o9, hl_20, h⟩
    · exact g_sub [4, 1, 0] rfl (L_13 a2 r_2 (f_X10_rowAt_row hf_1) σ rfl FU (0 : Int32) (.inl r9) hl_20 (fun u_14 e9 => nomatch e9) (fun r8 e9 => by cases e9; exact he9))
    · obtain ⟨u_14, rfl⟩ : ∃ z, z = o9 := ⟨_, rfl⟩
      refine g_sub [4, 1, 0] rfl (L_13 a2 r_2 (f_X10_rowAt_row hf_1) σ rfl FU (0 : Int32) (.inr u_14) hl_20 (fun u_14z e9 => ?_) (fun r8 e9 => nomatch e9))
      cases e9
      refine g_iconst X dX10_placeOf_38 (v := (-1 : Int32)) (by decide) ?_
      cases h
      exact g_xret (g_iret (Wf := cW cy A aK X9) X ⟨rfl, rfl⟩ dX10_placeOf_39)
  exact K0
set_option maxHeartbeats 8000000 in
set_option maxRecDepth 100000 in
theorem m_X10_firstAt {σ : St} {a1 : Nat} {a2 : Int32} {r : Int32} (h1 : isRow a1) (h : f_X10_firstAt a1 a2 σ = some r) : mI (ZC aK aO aS aV aT) D (cyT cy) l yX10_firstAt wsX10_firstAt ({ frames := 1, cells := 0, slots := 0, locals := 21 } : Room) (cW cy A aK X9) [.ref (A 0), .ref (A a1), .int a2] σ r σ := by
  unfold f_X10_firstAt at h
  refine mI_of (cc := cX10_firstAt) (maxL := 3) (ret := (some .int)) (by decide) rfl (Nat.le_of_ble_eq_true rfl) (fun p e s m args below meth c B X => ?_)
  have hin10 : ∀ w ∈ wsX100, w ∈ wsX10_firstAt := by decide +kernel
  have hin6 : ∀ w ∈ wsX60, w ∈ wsX10_firstAt := by decide +kernel
  have lk0 : Cond.fieldLink RX10 12 "Cardcabinet" "deck" "LCardcabinet$Deck;" ∈ wsX10_firstAt := by decide +kernel
  have lk1 : Cond.fieldLink RX10 188 "Cardcabinet$Row" "marks" "[I" ∈ wsX10_firstAt := by decide +kernel
  have K0 : gG p l e ({ frames := 1, cells := 0, slots := 0, locals := 21 } : Room) s m args below meth c D (cyT cy) B 3 (eI D (cyT cy) (cW cy A aK X9) B below args s r σ) (cW cy A aK X9 σ) 0 0 0 [(0, .ref (A 0)), (1, .ref (A a1)), (2, .int a2)] [] := by
    refine g_aload_n X dX10_firstAt_0 rfl 0 rfl ?_
    refine g_get X (AD := A) cm0 (cE_0 cy A aK σ) hin10 rfl 0 (by decide) lk0 (fun _ h9 => h9) rfl dX10_firstAt_1 ?_
    refine g_aload_n X dX10_firstAt_4 rfl 1 rfl ?_
    refine g_get X (AD := A) (h1).mem (cE_row cy A aK σ h1) hin6 rfl 0 (by decide) lk1 (fun _ h9 => h9) rfl dX10_firstAt_5 ?_
    refine g_iload_n X dX10_firstAt_8 rfl 2 rfl ?_
    obtain ⟨hg_1, h⟩ := grd_some h
    refine g_iald X (AD := A) ((isRow.mk h1)).mem (cE_mk cy A aK σ (isRow.mk h1)) 0 rfl hg_1 dX10_firstAt_9 ?_
    obtain ⟨r_3, hf_2, h⟩ := bnd_some h
    refine g_callVI (AD := A) (As := [.int (gr σ (a1 + 16) a2.toNatClampNeg)]) X (ZC_ok _ _ _ _ _) (m_X1_firstOf hf_2) (cwV 1 X.1.2.2.2.2 gX10_firstAt_X1_firstOf rfl rfl rfl (by decide +kernel) ⟨Nat.le_of_ble_eq_true rfl, Nat.le_of_ble_eq_true rfl⟩) rfl cm1 (cE_1 cy A aK σ) rfl rfl (Nat.le_of_ble_eq_true rfl) ⟨Nat.zero_le _, Nat.zero_le _⟩ dX10_firstAt_10 ?_
    cases h
    exact g_iret (Wf := cW cy A aK X9) X ⟨rfl, rfl⟩ dX10_firstAt_13
  exact K0
set_option maxHeartbeats 8000000 in
set_option maxRecDepth 100000 in
theorem m_X10_startsRun {σ : St} {a1 : Nat} {a2 : Int32} {r : Int32} (h1 : isRow a1) (h : f_X10_startsRun a1 a2 σ = some r) : mI (ZC aK aO aS aV aT) D (cyT cy) l yX10_startsRun wsX10_startsRun ({ frames := 2, cells := 0, slots := 0, locals := 43 } : Room) (cW cy A aK X9) [.ref (A 0), .ref (A a1), .int a2] σ r σ := by
  unfold f_X10_startsRun at h
  refine mI_of (cc := cX10_startsRun) (maxL := 3) (ret := (some .boolean)) (by decide) rfl (Nat.le_of_ble_eq_true rfl) (fun p e s m args below meth c B X => ?_)
  have K0 : gG p l e ({ frames := 2, cells := 0, slots := 0, locals := 43 } : Room) s m args below meth c D (cyT cy) B 3 (eI D (cyT cy) (cW cy A aK X9) B below args s r σ) (cW cy A aK X9 σ) 0 0 0 [(0, .ref (A 0)), (1, .ref (A a1)), (2, .int a2)] [] := by
    refine g_iload_n X dX10_startsRun_0 rfl 2 rfl ?_
    obtain ⟨v_2, hj_10, h⟩ := bnd_some h
    have K_3 : gG p l e ({ frames := 2, cells := 0, slots := 0, locals := 43 } : Room) s m args below meth c D (cyT cy) B 3 (eI D (cyT cy) (cW cy A aK X9) B below args s r σ) (cW cy A aK X9 σ) 0 0 26 [] [.int v_2] := by
      obtain ⟨hg_9, h⟩ := grd_some h
      cases h
      exact g_zret (Wf := cW cy A aK X9) X (nar01 hg_9) ⟨rfl, rfl⟩ dX10_startsRun_26
    have h := hj_10
    clear hj_10
    refine g_if_eq X (tgt := 21) dX10_startsRun_1 (by decide) (fun hc_1 => ?_) (fun hc_1 => ?_)
    · have h := ift hc_1 h
      refine g_iconst X dX10_startsRun_21 (v := (1 : Int32)) (by decide) ?_
      refine g_goto X (tgt := 26) dX10_startsRun_22 (by decide) ?_
      cases h
      exact g_sub [] rfl K_3
    · have h := iff_ hc_1 h
      refine g_aload_n X dX10_startsRun_4 rfl 0 rfl ?_
      refine g_aload_n X dX10_startsRun_5 rfl 1 rfl ?_
      refine g_iload_n X dX10_startsRun_6 rfl 2 rfl ?_
      obtain ⟨r_5, hf_4, h⟩ := bnd_some h
      refine g_callVI (AD := A) (As := [.ref (A a1), .int a2]) X (ZC_ok _ _ _ _ _) (m_X10_firstAt h1 hf_4) (cwV 2 X.1.2.2.2.2 gX10_startsRun_X10_firstAt rfl rfl rfl (by decide +kernel) ⟨Nat.le_of_ble_eq_true rfl, Nat.le_of_ble_eq_true rfl⟩) rfl cm0 (cE_0 cy A aK σ) rfl rfl (Nat.le_of_ble_eq_true rfl) ⟨Nat.zero_le _, Nat.zero_le _⟩ dX10_startsRun_7 ?_
      refine g_aload_n X dX10_startsRun_10 rfl 0 rfl ?_
      refine g_aload_n X dX10_startsRun_11 rfl 1 rfl ?_
      refine g_iload_n X dX10_startsRun_12 rfl 2 rfl ?_
      refine g_iconst X dX10_startsRun_13 (v := (1 : Int32)) (by decide) ?_
      refine g_isub X dX10_startsRun_14 ?_
      obtain ⟨r_7, hf_6, h⟩ := bnd_some h
      refine g_callVI (AD := A) (As := [.ref (A a1), .int (a2 - (1 : Int32))]) X (ZC_ok _ _ _ _ _) (m_X10_firstAt h1 hf_6) (cwV 2 X.1.2.2.2.2 gX10_startsRun_X10_firstAt rfl rfl rfl (by decide +kernel) ⟨Nat.le_of_ble_eq_true rfl, Nat.le_of_ble_eq_true rfl⟩) rfl cm0 (cE_0 cy A aK σ) rfl rfl (Nat.le_of_ble_eq_true rfl) ⟨Nat.zero_le _, Nat.zero_le _⟩ dX10_startsRun_15 ?_
      refine g_icmp_ge X (tgt := 25) dX10_startsRun_18 (by decide) (fun hc_8 => ?_) (fun hc_8 => ?_)
      · have h := ift hc_8 h
        refine g_iconst X dX10_startsRun_25 (v := (0 : Int32)) (by decide) ?_
        cases h
        exact g_sub [] rfl K_3
      · have h := iff_ hc_8 h
        refine g_iconst X dX10_startsRun_21 (v := (1 : Int32)) (by decide) ?_
        refine g_goto X (tgt := 26) dX10_startsRun_22 (by decide) ?_
        cases h
        exact g_sub [] rfl K_3
  exact K0
set_option maxHeartbeats 8000000 in
set_option maxRecDepth 100000 in
theorem m_X10_numberOfRuns {σ : St} {a1 : Nat} {r : Int32} (h1 : isRow a1) (h : f_X10_numberOfRuns a1 σ = some r) : mI (ZC aK aO aS aV aT) D (cyT cy) l yX10_numberOfRuns wsX10_numberOfRuns ({ frames := 3, cells := 0, slots := 0, locals := 65 } : Room) (cW cy A aK X9) [.ref (A 0), .ref (A a1)] σ r σ := by
  unfold f_X10_numberOfRuns at h
  refine mI_of (cc := cX10_numberOfRuns) (maxL := 4) (ret := (some .int)) (by decide) rfl (Nat.le_of_ble_eq_true rfl) (fun p e s m args below meth c B X => ?_)
  have hin6 : ∀ w ∈ wsX60, w ∈ wsX10_numberOfRuns := by decide +kernel
  have lk0 : Cond.fieldLink RX10 120 "Cardcabinet$Row" "size" "I" ∈ wsX10_numberOfRuns := by decide +kernel
  have K0 : gG p l e ({ frames := 3, cells := 0, slots := 0, locals := 65 } : Room) s m args below meth c D (cyT cy) B 4 (eI D (cyT cy) (cW cy A aK X9) B below args s r σ) (cW cy A aK X9 σ) 0 0 0 [(0, .ref (A 0)), (1, .ref (A a1))] [] := by
    refine g_iconst X dX10_numberOfRuns_0 (v := (0 : Int32)) (by decide) ?_
    refine g_istore_n X dX10_numberOfRuns_1 rfl (by decide) (lv' := [(2, .int (0 : Int32)), (0, .ref (A 0)), (1, .ref (A a1))]) rfl ?_
    refine g_iconst X dX10_numberOfRuns_2 (v := (0 : Int32)) (by decide) ?_
    refine g_istore_n X dX10_numberOfRuns_3 rfl (by decide) (lv' := [(3, .int (0 : Int32)), (2, .int (0 : Int32)), (0, .ref (A 0)), (1, .ref (A a1))]) rfl ?_
    have L_10 : ∀ (c_1 : Nat) (hp_2 : isRow c_1) (σ_5 : St) (hq_12 : σ_5 = σ) (n_6 : Nat) (v_3 : Int32) (v_4 : Int32) (o_11 : Int32), f_X10_numberOfRuns_L4 c_1 σ_5 n_6 v_3 v_4 = some (o_11) → gG p l e ({ frames := 3, cells := 0, slots := 0, locals := 65 } : Room) s m args below meth c D (cyT cy) B 4 (eI D (cyT cy) (cW cy A aK X9) B below args s r σ) (cW cy A aK X9 σ_5) 0 0 30 [(2, .int o_11)] [] → gG p l e ({ frames := 3, cells := 0, slots := 0, locals := 65 } : Room) s m args below meth c D (cyT cy) B 4 (eI D (cyT cy) (cW cy A aK X9) B below args s r σ) (cW cy A aK X9 σ_5) 0 0 4 [(0, .ref (A 0)), (1, .ref (A c_1)), (2, .int v_3), (3, .int v_4)] [] := by
      intro c_1 hp_2 σ_5 hq_12 n_6
      induction n_6 with
      | zero =>
        intro v_3 v_4 o_11 h K_8
        rw [f_X10_numberOfRuns_L4] at h
        cases h
      | succ n_6 ih_7 =>
        intro v_3 v_4 o_11 h K_8
        rw [f_X10_numberOfRuns_L4] at h
        refine g_iload_n X dX10_numberOfRuns_4 rfl 3 rfl ?_
        refine g_aload_n X dX10_numberOfRuns_5 rfl 1 rfl ?_
        refine g_get X (AD := A) (hp_2).mem (cE_row cy A aK σ_5 hp_2) hin6 rfl 1 (by decide) lk0 (fun _ h9 => h9) rfl dX10_numberOfRuns_6 ?_
        refine g_icmp_ge X (tgt := 30) dX10_numberOfRuns_9 (by decide) (fun hc_13 => ?_) (fun hc_13 => ?_)
        · have h := ift hc_13 h
          cases h
          exact g_sub [2] rfl K_8
        · have h := iff_ hc_13 h
          refine g_aload_n X dX10_numberOfRuns_12 rfl 0 rfl ?_
          refine g_aload_n X dX10_numberOfRuns_13 rfl 1 rfl ?_
          refine g_iload_n X dX10_numberOfRuns_14 rfl 3 rfl ?_
          obtain ⟨r_15, hf_14, h⟩ := bnd_some h
          refine g_callVI (AD := A) (As := [.ref (A c_1), .int v_4]) X (ZC_ok _ _ _ _ _) (m_X10_startsRun hp_2 hf_14) (cwV 2 X.1.2.2.2.2 gX10_numberOfRuns_X10_startsRun rfl rfl rfl (by decide +kernel) ⟨Nat.le_of_ble_eq_true rfl, Nat.le_of_ble_eq_true rfl⟩) rfl cm0 (cE_0 cy A aK σ_5) rfl rfl (Nat.le_of_ble_eq_true rfl) ⟨Nat.zero_le _, Nat.zero_le _⟩ dX10_numberOfRuns_15 ?_
          obtain ⟨v_17, hj_19, h⟩ := bnd_some h
          have K_18 : gG p l e ({ frames := 3, cells := 0, slots := 0, locals := 65 } : Room) s m args below meth c D (cyT cy) B 4 (eI D (cyT cy) (cW cy A aK X9) B below args s r σ) (cW cy A aK X9 σ_5) 0 0 24 [(0, .ref (A 0)), (1, .ref (A c_1)), (2, .int v_17), (3, .int v_4)] [] := by
            refine g_iinc X dX10_numberOfRuns_24 3 rfl (v := v_4 + (1 : Int32)) rfl (by decide) (lv' := [(3, .int (v_4 + (1 : Int32))), (0, .ref (A 0)), (1, .ref (A c_1)), (2, .int v_17)]) rfl ?_
            refine g_goto X (tgt := 4) dX10_numberOfRuns_27 (by decide) ?_
            exact g_sub [1, 2, 3, 0] rfl (ih_7 _ _ _ h K_8)
          have h := hj_19
          clear hj_19
          refine g_if_eq X (tgt := 24) dX10_numberOfRuns_18 (by decide) (fun hc_16 => ?_) (fun hc_16 => ?_)
          · have h := ift hc_16 h
            cases h
            exact g_sub [0, 1, 2, 3] rfl K_18
          · have h := iff_ hc_16 h
            refine g_iinc X dX10_numberOfRuns_21 2 rfl (v := v_3 + (1 : Int32)) rfl (by decide) (lv' := [(2, .int (v_3 + (1 : Int32))), (0, .ref (A 0)), (1, .ref (A c_1)), (3, .int v_4)]) rfl ?_
            cases h
            exact g_sub [1, 2, 0, 3] rfl K_18
    obtain ⟨o_11, hl_20, h⟩ := bnd_some h
    refine g_sub [2, 3, 1, 0] rfl (L_10 a1 h1 σ rfl FU (0 : Int32) (0 : Int32) o_11 hl_20 ?_)
    refine g_iload_n X dX10_numberOfRuns_30 rfl 0 rfl ?_
    cases h
    exact g_iret (Wf := cW cy A aK X9) X ⟨rfl, rfl⟩ dX10_numberOfRuns_31
  exact K0
set_option maxHeartbeats 8000000 in
set_option maxRecDepth 100000 in
theorem m_X10_rises {σ : St} {a1 : Nat} {r : Int32} (h1 : isRow a1) (h : f_X10_rises a1 σ = some r) : mI (ZC aK aO aS aV aT) D (cyT cy) l yX10_rises wsX10_rises ({ frames := 4, cells := 0, slots := 0, locals := 88 } : Room) (cW cy A aK X9) [.ref (A 0), .ref (A a1)] σ r σ := by
  unfold f_X10_rises at h
  refine mI_of (cc := cX10_rises) (maxL := 2) (ret := (some .boolean)) (by decide) rfl (Nat.le_of_ble_eq_true rfl) (fun p e s m args below meth c B X => ?_)
  have K0 : gG p l e ({ frames := 4, cells := 0, slots := 0, locals := 88 } : Room) s m args below meth c D (cyT cy) B 2 (eI D (cyT cy) (cW cy A aK X9) B below args s r σ) (cW cy A aK X9 σ) 0 0 0 [(0, .ref (A 0)), (1, .ref (A a1))] [] := by
    refine g_aload_n X dX10_rises_0 rfl 0 rfl ?_
    refine g_aload_n X dX10_rises_1 rfl 1 rfl ?_
    obtain ⟨r_2, hf_1, h⟩ := bnd_some h
    refine g_callVI (AD := A) (As := [.ref (A a1)]) X (ZC_ok _ _ _ _ _) (m_X10_numberOfRuns h1 hf_1) (cwV 1 X.1.2.2.2.2 gX10_rises_X10_numberOfRuns rfl rfl rfl (by decide +kernel) ⟨Nat.le_of_ble_eq_true rfl, Nat.le_of_ble_eq_true rfl⟩) rfl cm0 (cE_0 cy A aK σ) rfl rfl (Nat.le_of_ble_eq_true rfl) ⟨Nat.zero_le _, Nat.zero_le _⟩ dX10_rises_2 ?_
    refine g_iconst X dX10_rises_5 (v := (1 : Int32)) (by decide) ?_
    obtain ⟨v_4, hj_7, h⟩ := bnd_some h
    have K_5 : gG p l e ({ frames := 4, cells := 0, slots := 0, locals := 88 } : Room) s m args below meth c D (cyT cy) B 2 (eI D (cyT cy) (cW cy A aK X9) B below args s r σ) (cW cy A aK X9 σ) 0 0 14 [] [.int v_4] := by
      obtain ⟨hg_6, h⟩ := grd_some h
      cases h
      exact g_zret (Wf := cW cy A aK X9) X (nar01 hg_6) ⟨rfl, rfl⟩ dX10_rises_14
    have h := hj_7
    clear hj_7
    refine g_icmp_gt X (tgt := 13) dX10_rises_6 (by decide) (fun hc_3 => ?_) (fun hc_3 => ?_)
    · have h := ift hc_3 h
      refine g_iconst X dX10_rises_13 (v := (0 : Int32)) (by decide) ?_
      cases h
      exact g_sub [] rfl K_5
    · have h := iff_ hc_3 h
      refine g_iconst X dX10_rises_9 (v := (1 : Int32)) (by decide) ?_
      refine g_goto X (tgt := 14) dX10_rises_10 (by decide) ?_
      cases h
      exact g_sub [] rfl K_5
  exact K0
set_option maxHeartbeats 8000000 in
set_option maxRecDepth 100000 in
theorem m_X10_placeFor {σ : St} {a1 : Int32} {a2 : Int32} {r : String ⊕ Int32} (hl : l.stackTraces = false) (h : f_X10_placeFor a1 a2 σ = some r) : xI (ZC aK aO aS aV aT) D (cyT cy) l yX10_placeFor wsX10_placeFor ({ frames := 7, cells := thrC r, slots := thrS r, locals := 151 } : Room) (cW cy A aK X9) [.ref (A 0), .int a1, .int a2] σ r σ (thrC r) (thrS r) := by
  unfold f_X10_placeFor at h
  refine xI_of (cc := cX10_placeFor) (maxL := 5) (ret := (some .int)) (by decide) rfl (Nat.le_of_ble_eq_true rfl) (fun p e s m args below meth c B X hx0 => ?_)
  have hin6 : ∀ w ∈ wsX60, w ∈ wsX10_placeFor := by decide +kernel
  have lk0 : Cond.fieldLink RX10 120 "Cardcabinet$Row" "size" "I" ∈ wsX10_placeFor := by decide +kernel
  have lk1 : Cond.classLink RX10 77 "java/lang/IllegalStateException" ∈ wsX10_placeFor := by decide +kernel
  have lk2 : Cond.initialized "java/lang/IllegalStateException" ∈ wsX10_placeFor := by decide +kernel
  have lk3 : ∀ w ∈ (vx_atS RX10 81 "java/lang/IllegalStateException" ["java/lang/RuntimeException", "java/lang/Exception"]).filter goodWord, w ∈ wsX10_placeFor := by decide +kernel
  have K0 : gG p l e ({ frames := 7, cells := thrC r, slots := thrS r, locals := 151 } : Room) s m args below meth c D (cyT cy) B 5 (xeI D (cyT cy) (cW cy A aK X9) B below args s r σ (thrC r) (thrS r)) (cW cy A aK X9 σ) 0 0 0 [(0, .ref (A 0)), (1, .int a1), (2, .int a2)] [] := by
    refine g_aload_n X dX10_placeFor_0 rfl 0 rfl ?_
    refine g_iload_n X dX10_placeFor_1 rfl 1 rfl ?_
    rcases bndX_some h with ⟨E_3, hf_1, h⟩ | ⟨r_2, hf_1, h⟩
    · cases h
      exact g_xVR_thr (AD := A) (As := [.int a1]) X (ZC_ok _ _ _ _ _) hx0 (m_X10_rowAt hl hf_1) (cwV 1 X.1.2.2.2.2 gX10_placeFor_X10_rowAt rfl rfl rfl (by decide +kernel) ⟨Nat.le_of_ble_eq_true rfl, Nat.le_of_ble_eq_true rfl⟩) rfl cm0 (cE_0 cy A aK _) rfl rfl (Nat.le_of_ble_eq_true rfl) ⟨thrC_l (β := Int32) _ "", thrS_l (β := Int32) _ ""⟩ dX10_placeFor_2 rfl rfl (thrC_l (β := Int32) _ "") (thrS_l (β := Int32) _ "")
    refine g_xVR_ret (AD := A) (As := [.int a1]) X (ZC_ok _ _ _ _ _) (m_X10_rowAt hl hf_1) (cwV 1 X.1.2.2.2.2 gX10_placeFor_X10_rowAt rfl rfl rfl (by decide +kernel) ⟨Nat.le_of_ble_eq_true rfl, Nat.le_of_ble_eq_true rfl⟩) rfl cm0 (cE_0 cy A aK σ) rfl rfl (Nat.le_of_ble_eq_true rfl) ⟨thrC_r _ _, thrS_r _ _⟩ dX10_placeFor_2 (k' := 0) (n' := 0) (thrC_r _ _) (thrS_r _ _) ?_
    refine g_astore_n X dX10_placeFor_5 rfl (by decide) (lv' := [(3, .ref (A r_2)), (0, .ref (A 0)), (1, .int a1), (2, .int a2)]) rfl ?_
    refine g_aload_n X dX10_placeFor_6 rfl 1 rfl ?_
    refine g_aload_n X dX10_placeFor_7 rfl 0 rfl ?_
    obtain ⟨r_5, hf_4, h⟩ := bnd_some h
    refine g_callVI (AD := A) (As := [.ref (A r_2)]) X (ZC_ok _ _ _ _ _) (m_X10_rises (f_X10_rowAt_row hf_1) hf_4) (cwV 1 X.1.2.2.2.2 gX10_placeFor_X10_rises rfl rfl rfl (by decide +kernel) ⟨Nat.le_of_ble_eq_true rfl, Nat.le_of_ble_eq_true rfl⟩) rfl cm0 (cE_0 cy A aK σ) rfl rfl (Nat.le_of_ble_eq_true rfl) ⟨Nat.zero_le _, Nat.zero_le _⟩ dX10_placeFor_8 ?_
    refine g_if_ne X (tgt := 24) dX10_placeFor_11 (by decide) (fun hc_6 => ?_) (fun hc_6 => ?_)
    · have h := iff_ hc_6 h
      refine g_iconst X dX10_placeFor_24 (v := (0 : Int32)) (by decide) ?_
      refine g_istore X dX10_placeFor_25 (by decide) (lv' := [(4, .int (0 : Int32)), (3, .ref (A r_2)), (0, .ref (A 0)), (1, .int a1), (2, .int a2)]) rfl ?_
      have L_16 : ∀ (c_7 : Int32) (c_8 : Nat) (hp_9 : isRow c_8) (σ_11 : St) (hq_18 : σ_11 = σ) (n_12 : Nat) (v_10 : Int32) (o_17 : Int32), f_X10_placeFor_L27 c_7 c_8 σ_11 n_12 v_10 = some (o_17) → gG p l e ({ frames := 7, cells := thrC r, slots := thrS r, locals := 151 } : Room) s m args below meth c D (cyT cy) B 5 (xeI D (cyT cy) (cW cy A aK X9) B below args s r σ (thrC r) (thrS r)) (cW cy A aK X9 σ_11) 0 0 53 [(4, .int o_17)] [] → gG p l e ({ frames := 7, cells := thrC r, slots := thrS r, locals := 151 } : Room) s m args below meth c D (cyT cy) B 5 (xeI D (cyT cy) (cW cy A aK X9) B below args s r σ (thrC r) (thrS r)) (cW cy A aK X9 σ_11) 0 0 27 [(0, .ref (A 0)), (2, .int c_7), (3, .ref (A c_8)), (4, .int v_10)] [] := by
        intro c_7 c_8 hp_9 σ_11 hq_18 n_12
        induction n_12 with
        | zero =>
          intro v_10 o_17 h K_14
          rw [f_X10_placeFor_L27] at h
          cases h
        | succ n_12 ih_13 =>
          intro v_10 o_17 h K_14
          rw [f_X10_placeFor_L27] at h
          refine g_iload X dX10_placeFor_27 3 rfl ?_
          refine g_aload_n X dX10_placeFor_29 rfl 2 rfl ?_
          refine g_get X (AD := A) (hp_9).mem (cE_row cy A aK σ_11 hp_9) hin6 rfl 1 (by decide) lk0 (fun _ h9 => h9) rfl dX10_placeFor_30 ?_
          refine g_icmp_ge X (tgt := 53) dX10_placeFor_33 (by decide) (fun hc_19 => ?_) (fun hc_19 => ?_)
          · have h := ift hc_19 h
            cases h
            exact g_sub [3] rfl K_14
          · have h := iff_ hc_19 h
            refine g_aload_n X dX10_placeFor_36 rfl 0 rfl ?_
            refine g_aload_n X dX10_placeFor_37 rfl 2 rfl ?_
            refine g_iload X dX10_placeFor_38 3 rfl ?_
            obtain ⟨r_21, hf_20, h⟩ := bnd_some h
            refine g_callVI (AD := A) (As := [.ref (A c_8), .int v_10]) X (ZC_ok _ _ _ _ _) (m_X10_firstAt hp_9 hf_20) (cwV 2 X.1.2.2.2.2 gX10_placeFor_X10_firstAt rfl rfl rfl (by decide +kernel) ⟨Nat.le_of_ble_eq_true rfl, Nat.le_of_ble_eq_true rfl⟩) rfl cm0 (cE_0 cy A aK σ_11) rfl rfl (Nat.le_of_ble_eq_true rfl) ⟨Nat.zero_le _, Nat.zero_le _⟩ dX10_placeFor_40 ?_
            refine g_iload_n X dX10_placeFor_43 rfl 1 rfl ?_
            refine g_icmp_gt X (tgt := 53) dX10_placeFor_44 (by decide) (fun hc_22 => ?_) (fun hc_22 => ?_)
            · have h := ift hc_22 h
              cases h
              exact g_sub [3] rfl K_14
            · have h := iff_ hc_22 h
              refine g_iinc X dX10_placeFor_47 3 rfl (v := v_10 + (1 : Int32)) rfl (by decide) (lv' := [(4, .int (v_10 + (1 : Int32))), (0, .ref (A 0)), (2, .int c_7), (3, .ref (A c_8))]) rfl ?_
              refine g_goto X (tgt := 27) dX10_placeFor_50 (by decide) ?_
              exact g_sub [1, 2, 3, 0] rfl (ih_13 _ _ h K_14)
      obtain ⟨o_17, hl_23, h⟩ := bnd_some h
      refine g_sub [2, 4, 1, 0] rfl (L_16 a2 r_2 (f_X10_rowAt_row hf_1) σ rfl FU (0 : Int32) o_17 hl_23 ?_)
      refine g_iload X dX10_placeFor_53 0 rfl ?_
      cases h
      exact g_xret (g_iret (Wf := cW cy A aK X9) X ⟨rfl, rfl⟩ dX10_placeFor_55)
    · have h := ift hc_6 h
      cases h
      exact g_thr_ISE (AD := A) X hl hx0 (is9 := 222) (tx := "the row does not rise") (by decide) lk1 lk2 lk3 dX10_placeFor_14 dX10_placeFor_17 dX10_placeFor_18 dX10_placeFor_20 dX10_placeFor_23 (by decide) (Nat.le_of_ble_eq_true rfl) ⟨thrC_t (β := Int32) "", thrS_t (β := Int32) ""⟩ rfl rfl (thrC_t (β := Int32) "") (thrS_t (β := Int32) "")
  exact K0
end MV
