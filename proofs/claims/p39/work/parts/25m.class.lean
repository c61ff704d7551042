section MV
variable {D : va_G} {cy : Nat → ClassId} {A aK aO aS aV aT : Nat → Nat} {l : Launch} {X9 : va_W}
set_option maxHeartbeats 8000000 in
set_option maxRecDepth 100000 in
theorem m_X10_rowAt {σ : St} {a1 : Int32} {r : String ⊕ Nat} (hl : l.stackTraces = false) (h : f_X10_rowAt a1 σ = some r) : xR (ZC aK aO aS aV aT) D (cyT cy) l yX10_rowAt wsX10_rowAt ({ frames := 6, cells := thrC r, slots := thrS r, locals := 130 } : Room) A (cW cy A aK X9) [.ref (A 0), .int a1] σ r σ (thrC r) (thrS r) := by
  unfold f_X10_rowAt at h
  refine xR_of (cc := cX10_rowAt) (maxL := 2) (ret := (some (.object "Cardcabinet$Row"))) (by decide) rfl (Nat.le_of_ble_eq_true rfl) (fun p e s m args below meth c B X hx0 => ?_)
  have hin10 : ∀ w ∈ wsX100, w ∈ wsX10_rowAt := by decide +kernel
  have lk0 : Cond.classLink RX10 123 "java/lang/IndexOutOfBoundsException" ∈ wsX10_rowAt := by decide +kernel
  have lk1 : Cond.initialized "java/lang/IndexOutOfBoundsException" ∈ wsX10_rowAt := by decide +kernel
  have lk2 : ∀ w ∈ (vx_atS RX10 127 "java/lang/IndexOutOfBoundsException" ["java/lang/RuntimeException", "java/lang/Exception"]).filter goodWord, w ∈ wsX10_rowAt := by decide +kernel
  have lk3 : Cond.fieldLink RX10 18 "Cardcabinet" "rows" "[LCardcabinet$Row;" ∈ wsX10_rowAt := by decide +kernel
  have K0 : gG p l e ({ frames := 6, cells := thrC r, slots := thrS r, locals := 130 } : Room) s m args below meth c D (cyT cy) B 2 (xeR A D (cyT cy) (cW cy A aK X9) B below args s r σ (thrC r) (thrS r)) (cW cy A aK X9 σ) 0 0 0 [(0, .ref (A 0)), (1, .int a1)] [] := by
    refine g_iload_n X dX10_rowAt_0 rfl 1 rfl ?_
    refine g_if_lt X (tgt := 9) dX10_rowAt_1 (by decide) (fun hc_1 => ?_) (fun hc_1 => ?_)
    · have h := ift hc_1 h
      cases h
      exact g_thr_IOOBE (AD := A) X hl hx0 (is9 := 252) (tx := "no such row") (by decide) lk0 lk1 lk2 dX10_rowAt_9 dX10_rowAt_12 dX10_rowAt_13 dX10_rowAt_15 dX10_rowAt_18 (by decide) (Nat.le_of_ble_eq_true rfl) ⟨thrC_t (β := Int32) "", thrS_t (β := Int32) ""⟩ rfl rfl (thrC_t (β := Int32) "") (thrS_t (β := Int32) "")
    · have h := iff_ hc_1 h
      refine g_iload_n X dX10_rowAt_4 rfl 1 rfl ?_
      refine g_iconst X dX10_rowAt_5 (v := (4 : Int32)) (by decide) ?_
      refine g_icmp_lt X (tgt := 19) dX10_rowAt_6 (by decide) (fun hc_2 => ?_) (fun hc_2 => ?_)
      · have h := ift hc_2 h
        refine g_aload_n X dX10_rowAt_19 rfl 0 rfl ?_
        refine g_get X (AD := A) cm0 (cE_0 cy A aK σ) hin10 rfl 1 (by decide) lk3 (fun _ h9 => h9) rfl dX10_rowAt_20 ?_
        refine g_iload_n X dX10_rowAt_23 rfl 1 rfl ?_
        obtain ⟨hg_3, h⟩ := grd_some h
        refine g_aald X (AD := A) cm4 (cE_4 cy A aK σ) 3 rfl hg_3 (v := .ref (A (16 + a1.toNatClampNeg))) rfl dX10_rowAt_24 ?_
        cases h
        exact g_xret (g_aret (Wf := cW cy A aK X9) X (Or.inl ⟨_, rfl⟩) ⟨⟨_, rfl, rfl⟩, rfl⟩ dX10_rowAt_25)
      · have h := iff_ hc_2 h
        cases h
        exact g_thr_IOOBE (AD := A) X hl hx0 (is9 := 252) (tx := "no such row") (by decide) lk0 lk1 lk2 dX10_rowAt_9 dX10_rowAt_12 dX10_rowAt_13 dX10_rowAt_15 dX10_rowAt_18 (by decide) (Nat.le_of_ble_eq_true rfl) ⟨thrC_t (β := Int32) "", thrS_t (β := Int32) ""⟩ rfl rfl (thrC_t (β := Int32) "") (thrS_t (β := Int32) "")
  exact K0
set_option maxHeartbeats 8000000 in
set_option maxRecDepth 100000 in
theorem m_X10_needRoom {σ : St} {a1 : Nat} {a2 : Int32} {r : String ⊕ Unit} (h1 : isRow a1) (hl : l.stackTraces = false) (h : f_X10_needRoom a1 a2 σ = some r) : xV (ZC aK aO aS aV aT) D (cyT cy) l yX10_needRoom wsX10_needRoom ({ frames := 6, cells := thrC r, slots := thrS r, locals := 130 } : Room) (cW cy A aK X9) [.ref (A a1), .int a2] σ r σ (thrC r) (thrS r) := by
  unfold f_X10_needRoom at h
  refine xV_of (cc := cX10_needRoom) (maxL := 2) (ret := none) (by decide) rfl (Nat.le_of_ble_eq_true rfl) (fun p e s m args below meth c B X hx0 => ?_)
  have hin6 : ∀ w ∈ wsX60, w ∈ wsX10_needRoom := by decide +kernel
  have lk0 : Cond.fieldLink RX10 120 "Cardcabinet$Row" "size" "I" ∈ wsX10_needRoom := by decide +kernel
  have lk1 : Cond.classLink RX10 77 "java/lang/IllegalStateException" ∈ wsX10_needRoom := by decide +kernel
  have lk2 : Cond.initialized "java/lang/IllegalStateException" ∈ wsX10_needRoom := by decide +kernel
  have lk3 : ∀ w ∈ (vx_atS RX10 81 "java/lang/IllegalStateException" ["java/lang/RuntimeException", "java/lang/Exception"]).filter goodWord, w ∈ wsX10_needRoom := by decide +kernel
  have K0 : gG p l e ({ frames := 6, cells := thrC r, slots := thrS r, locals := 130 } : Room) s m args below meth c D (cyT cy) B 2 (xeV D (cyT cy) (cW cy A aK X9) B below args s r σ (thrC r) (thrS r)) (cW cy A aK X9 σ) 0 0 0 [(0, .ref (A a1)), (1, .int a2)] [] := by
    refine g_aload_n X dX10_needRoom_0 rfl 0 rfl ?_
    refine g_get X (AD := A) (h1).mem (cE_row cy A aK σ h1) hin6 rfl 1 (by decide) lk0 (fun _ h9 => h9) rfl dX10_needRoom_1 ?_
    refine g_iload_n X dX10_needRoom_4 rfl 1 rfl ?_
    refine g_iadd X dX10_needRoom_5 ?_
    refine g_sipush X dX10_needRoom_6 (v := (800 : Int32)) (by decide) ?_
    refine g_icmp_le X (tgt := 23) dX10_needRoom_9 (by decide) (fun hc_1 => ?_) (fun hc_1 => ?_)
    · have h := ift hc_1 h
      cases h
      exact g_xret (g_vret (Wf := cW cy A aK X9) X ⟨rfl, rfl⟩ dX10_needRoom_23)
    · have h := iff_ hc_1 h
      cases h
      exact g_thrW_ISE (AD := A) X hl hx0 (is9 := 260) (tx := "the row would be too long") (by decide) lk1 lk2 lk3 dX10_needRoom_12 dX10_needRoom_15 dX10_needRoom_16 dX10_needRoom_19 dX10_needRoom_22 (by decide) (Nat.le_of_ble_eq_true rfl) ⟨thrC_t (β := Int32) "", thrS_t (β := Int32) ""⟩ rfl rfl (thrC_t (β := Int32) "") (thrS_t (β := Int32) "")
  exact K0
set_option maxHeartbeats 8000000 in
set_option maxRecDepth 100000 in
theorem m_X10_needCards {σ : St} {a1 : Int32} {r : String ⊕ Unit} (hl : l.stackTraces = false) (h : f_X10_needCards a1 σ = some r) : xV (ZC aK aO aS aV aT) D (cyT cy) l yX10_needCards wsX10_needCards ({ frames := 6, cells := thrC r, slots := thrS r, locals := 130 } : Room) (cW cy A aK X9) [.ref (A 0), .int a1] σ r σ (thrC r) (thrS r) := by
  unfold f_X10_needCards at h
  refine xV_of (cc := cX10_needCards) (maxL := 2) (ret := none) (by decide) rfl (Nat.le_of_ble_eq_true rfl) (fun p e s m args below meth c B X hx0 => ?_)
  have hin1 : ∀ w ∈ wsX10, w ∈ wsX10_needCards := by decide +kernel
  have hin10 : ∀ w ∈ wsX100, w ∈ wsX10_needCards := by decide +kernel
  have lk0 : Cond.fieldLink RX10 12 "Cardcabinet" "deck" "LCardcabinet$Deck;" ∈ wsX10_needCards := by decide +kernel
  have lk1 : Cond.fieldLink RX10 262 "Cardcabinet$Deck" "made" "I" ∈ wsX10_needCards := by decide +kernel
  have lk2 : Cond.classLink RX10 77 "java/lang/IllegalStateException" ∈ wsX10_needCards := by decide +kernel
  have lk3 : Cond.initialized "java/lang/IllegalStateException" ∈ wsX10_needCards := by decide +kernel
  have lk4 : ∀ w ∈ (vx_atS RX10 81 "java/lang/IllegalStateException" ["java/lang/RuntimeException", "java/lang/Exception"]).filter goodWord, w ∈ wsX10_needCards := by decide +kernel
  have K0 : gG p l e ({ frames := 6, cells := thrC r, slots := thrS r, locals := 130 } : Room) s m args below meth c D (cyT cy) B 2 (xeV D (cyT cy) (cW cy A aK X9) B below args s r σ (thrC r) (thrS r)) (cW cy A aK X9 σ) 0 0 0 [(0, .ref (A 0)), (1, .int a1)] [] := by
    refine g_aload_n X dX10_needCards_0 rfl 0 rfl ?_
    refine g_get X (AD := A) cm0 (cE_0 cy A aK σ) hin10 rfl 0 (by decide) lk0 (fun _ h9 => h9) rfl dX10_needCards_1 ?_
    refine g_get X (AD := A) cm1 (cE_1 cy A aK σ) hin1 rfl 2 (by decide) lk1 (fun _ h9 => h9) rfl dX10_needCards_4 ?_
    refine g_iload_n X dX10_needCards_7 rfl 1 rfl ?_
    refine g_iadd X dX10_needCards_8 ?_
    refine g_sipush X dX10_needCards_9 (v := (20000 : Int32)) (by decide) ?_
    refine g_icmp_le X (tgt := 26) dX10_needCards_12 (by decide) (fun hc_1 => ?_) (fun hc_1 => ?_)
    · have h := ift hc_1 h
      cases h
      exact g_xret (g_vret (Wf := cW cy A aK X9) X ⟨rfl, rfl⟩ dX10_needCards_26)
    · have h := iff_ hc_1 h
      cases h
      exact g_thrW_ISE (AD := A) X hl hx0 (is9 := 265) (tx := "too many cards would be made") (by decide) lk2 lk3 lk4 dX10_needCards_15 dX10_needCards_18 dX10_needCards_19 dX10_needCards_22 dX10_needCards_25 (by decide) (Nat.le_of_ble_eq_true rfl) ⟨thrC_t (β := Int32) "", thrS_t (β := Int32) ""⟩ rfl rfl (thrC_t (β := Int32) "") (thrS_t (β := Int32) "")
  exact K0
set_option maxHeartbeats 8000000 in
set_option maxRecDepth 100000 in
theorem m_X10_layRun {σ : St} {a1 : Nat} {a2 : Nat} {σ' : St} (h1 : isRun a1) (h2 : isRow a2) (h : f_X10_layRun a1 a2 σ = some σ') : mV (ZC aK aO aS aV aT) D (cyT cy) l yX10_layRun wsX10_layRun ({ frames := 3, cells := 0, slots := 0, locals := 103 } : Room) (cW cy A aK X9) [.ref (A 0), .ref (A a1), .ref (A a2)] σ σ' := by
  unfold f_X10_layRun at h
  refine mV_of (cc := cX10_layRun) (maxL := 4) (ret := none) (by decide) rfl (Nat.le_of_ble_eq_true rfl) (fun p e s m args below meth c B X => ?_)
  have hin10 : ∀ w ∈ wsX100, w ∈ wsX10_layRun := by decide +kernel
  have hin7 : ∀ w ∈ wsX70, w ∈ wsX10_layRun := by decide +kernel
  have lk0 : Cond.fieldLink RX10 267 "Cardcabinet$Run" "cards" "I" ∈ wsX10_layRun := by decide +kernel
  have lk1 : Cond.fieldLink RX10 12 "Cardcabinet" "deck" "LCardcabinet$Deck;" ∈ wsX10_layRun := by decide +kernel
  have lk2 : Cond.fieldLink RX10 65 "Cardcabinet" "draws" "LCardcabinet$Draws;" ∈ wsX10_layRun := by decide +kernel
  have K0 : gG p l e ({ frames := 3, cells := 0, slots := 0, locals := 103 } : Room) s m args below meth c D (cyT cy) B 4 (eV D (cyT cy) (cW cy A aK X9) B below args s σ') (cW cy A aK X9 σ) 0 0 0 [(0, .ref (A 0)), (1, .ref (A a1)), (2, .ref (A a2))] [] := by
    refine g_iconst X dX10_layRun_0 (v := (0 : Int32)) (by decide) ?_
    refine g_istore_n X dX10_layRun_1 rfl (by decide) (lv' := [(3, .int (0 : Int32)), (0, .ref (A 0)), (1, .ref (A a1)), (2, .ref (A a2))]) rfl ?_
    have L_11 : ∀ (c_1 : Nat) (hp_2 : isRun c_1) (c_3 : Nat) (hp_4 : isRow c_3) (n_7 : Nat) (v_5 : Int32) (σ_6 : St) (σ_12 : St), f_X10_layRun_L2 c_1 c_3 n_7 v_5 σ_6 = some (σ_12) → gG p l e ({ frames := 3, cells := 0, slots := 0, locals := 103 } : Room) s m args below meth c D (cyT cy) B 4 (eV D (cyT cy) (cW cy A aK X9) B below args s σ') (cW cy A aK X9 σ_12) 0 0 41 [] [] → gG p l e ({ frames := 3, cells := 0, slots := 0, locals := 103 } : Room) s m args below meth c D (cyT cy) B 4 (eV D (cyT cy) (cW cy A aK X9) B below args s σ') (cW cy A aK X9 σ_6) 0 0 2 [(0, .ref (A 0)), (1, .ref (A c_1)), (2, .ref (A c_3)), (3, .int v_5)] [] := by
      intro c_1 hp_2 c_3 hp_4 n_7
      induction n_7 with
      | zero =>
        intro v_5 σ_6 σ_12 h K_9
        rw [f_X10_layRun_L2] at h
        cases h
      | succ n_7 ih_8 =>
        intro v_5 σ_6 σ_12 h K_9
        rw [f_X10_layRun_L2] at h
        refine g_iload_n X dX10_layRun_2 rfl 3 rfl ?_
        refine g_aload_n X dX10_layRun_3 rfl 1 rfl ?_
        refine g_get X (AD := A) (hp_2).mem (cE_run cy A aK σ_6 hp_2) hin7 rfl 1 (by decide) lk0 (fun _ h9 => h9) rfl dX10_layRun_4 ?_
        refine g_icmp_ge X (tgt := 41) dX10_layRun_7 (by decide) (fun hc_13 => ?_) (fun hc_13 => ?_)
        · have h := ift hc_13 h
          cases h
          exact g_sub [] rfl K_9
        · have h := iff_ hc_13 h
          refine g_aload_n X dX10_layRun_10 rfl 2 rfl ?_
          refine g_aload_n X dX10_layRun_11 rfl 0 rfl ?_
          refine g_get X (AD := A) cm0 (cE_0 cy A aK σ_6) hin10 rfl 0 (by decide) lk1 (fun _ h9 => h9) rfl dX10_layRun_12 ?_
          refine g_aload_n X dX10_layRun_15 rfl 1 rfl ?_
          refine g_iload_n X dX10_layRun_16 rfl 3 rfl ?_
          refine g_aload_n X dX10_layRun_17 rfl 0 rfl ?_
          refine g_get X (AD := A) cm0 (cE_0 cy A aK σ_6) hin10 rfl 9 (by decide) lk2 (fun _ h9 => h9) rfl dX10_layRun_18 ?_
          obtain ⟨r_15, σ_16, hf_14, h⟩ := bnd2_some h
          refine g_callVI (AD := A) (As := [.int v_5, .ref (A 14)]) X (ZC_ok _ _ _ _ _) (m_X7_firstOf hp_2 hf_14) (cwV 2 X.1.2.2.2.2 gX10_layRun_X7_firstOf rfl rfl rfl (by decide +kernel) ⟨Nat.le_of_ble_eq_true rfl, Nat.le_of_ble_eq_true rfl⟩) rfl (hp_2).mem (cE_run cy A aK σ_6 hp_2) rfl rfl (Nat.le_of_ble_eq_true rfl) ⟨Nat.zero_le _, Nat.zero_le _⟩ dX10_layRun_21 ?_
          refine g_aload_n X dX10_layRun_24 rfl 1 rfl ?_
          refine g_iload_n X dX10_layRun_25 rfl 3 rfl ?_
          obtain ⟨r_18, hf_17, h⟩ := bnd_some h
          refine g_callVI (AD := A) (As := [.int v_5]) X (ZC_ok _ _ _ _ _) (m_X7_secondOf hp_2 hf_17) (cwV 1 X.1.2.2.2.2 gX10_layRun_X7_secondOf rfl rfl rfl (by decide +kernel) ⟨Nat.le_of_ble_eq_true rfl, Nat.le_of_ble_eq_true rfl⟩) rfl (hp_2).mem (cE_run cy A aK σ_16 hp_2) rfl rfl (Nat.le_of_ble_eq_true rfl) ⟨Nat.zero_le _, Nat.zero_le _⟩ dX10_layRun_26 ?_
          obtain ⟨r_20, σ_21, hf_19, h⟩ := bnd2_some h
          refine g_callVI (AD := A) (As := [.int r_15, .int r_18]) X (ZC_ok _ _ _ _ _) (m_X1_make hf_19) (cwV 2 X.1.2.2.2.2 gX10_layRun_X1_make rfl rfl rfl (by decide +kernel) ⟨Nat.le_of_ble_eq_true rfl, Nat.le_of_ble_eq_true rfl⟩) rfl cm1 (cE_1 cy A aK σ_16) rfl rfl (Nat.le_of_ble_eq_true rfl) ⟨Nat.zero_le _, Nat.zero_le _⟩ dX10_layRun_29 ?_
          obtain ⟨σ_23, hf_22, h⟩ := bnd_some h
          refine g_callVV (AD := A) (As := [.int r_20]) X (ZC_ok _ _ _ _ _) (m_X6_append hp_4 hf_22) (cwV 1 X.1.2.2.2.2 gX10_layRun_X6_append rfl rfl rfl (by decide +kernel) ⟨Nat.le_of_ble_eq_true rfl, Nat.le_of_ble_eq_true rfl⟩) rfl (hp_4).mem (cE_row cy A aK σ_21 hp_4) rfl rfl (Nat.le_of_ble_eq_true rfl) ⟨Nat.zero_le _, Nat.zero_le _⟩ dX10_layRun_32 ?_
          refine g_iinc X dX10_layRun_35 3 rfl (v := v_5 + (1 : Int32)) rfl (by decide) (lv' := [(3, .int (v_5 + (1 : Int32))), (0, .ref (A 0)), (1, .ref (A c_1)), (2, .ref (A c_3))]) rfl ?_
          refine g_goto X (tgt := 2) dX10_layRun_38 (by decide) ?_
          exact g_sub [1, 2, 3, 0] rfl (ih_8 _ _ _ h K_9)
    obtain ⟨σ_12, hl_24, h⟩ := bnd_some h
    refine g_sub [1, 2, 3, 0] rfl (L_11 a1 h1 a2 h2 FU (0 : Int32) σ σ_12 hl_24 ?_)
    cases h
    exact g_vret (Wf := cW cy A aK X9) X rfl dX10_layRun_41
  exact K0
set_option maxHeartbeats 8000000 in
set_option maxRecDepth 100000 in
theorem m_X10_lay {σ : St} {a1 : Int32} {r : String ⊕ Int32} {σ' : St} (hl : l.stackTraces = false) (h : f_X10_lay a1 σ = some (r, σ')) : xI (ZC aK aO aS aV aT) D (cyT cy) l yX10_lay wsX10_lay ({ frames := 11, cells := thrC r, slots := thrS r, locals := 287 } : Room) (cW cy A aK X9) [.ref (A 0), .int a1] σ r σ' (thrC r) (thrS r) := by
  unfold f_X10_lay at h
  refine xI_of (cc := cX10_lay) (maxL := 5) (ret := (some .int)) (by decide) rfl (Nat.le_of_ble_eq_true rfl) (fun p e s m args below meth c B X hx0 => ?_)
  have hin10 : ∀ w ∈ wsX100, w ∈ wsX10_lay := by decide +kernel
  have hin5 : ∀ w ∈ wsX50, w ∈ wsX10_lay := by decide +kernel
  have lk0 : Cond.fieldLink RX10 58 "Cardcabinet" "parser" "LCardcabinet$Parser;" ∈ wsX10_lay := by decide +kernel
  have lk1 : Cond.fieldLink RX10 109 "Cardcabinet$Parser" "runCount" "I" ∈ wsX10_lay := by decide +kernel
  have lk2 : Cond.fieldLink RX10 112 "Cardcabinet$Parser" "runList" "[LCardcabinet$Run;" ∈ wsX10_lay := by decide +kernel
  have lk3 : Cond.classLink RX10 77 "java/lang/IllegalStateException" ∈ wsX10_lay := by decide +kernel
  have lk4 : Cond.initialized "java/lang/IllegalStateException" ∈ wsX10_lay := by decide +kernel
  have lk5 : ∀ w ∈ (vx_atS RX10 81 "java/lang/IllegalStateException" ["java/lang/RuntimeException", "java/lang/Exception"]).filter goodWord, w ∈ wsX10_lay := by decide +kernel
  have K0 : gG p l e ({ frames := 11, cells := thrC r, slots := thrS r, locals := 287 } : Room) s m args below meth c D (cyT cy) B 5 (xeI D (cyT cy) (cW cy A aK X9) B below args s r σ' (thrC r) (thrS r)) (cW cy A aK X9 σ) 0 0 0 [(0, .ref (A 0)), (1, .int a1)] [] := by
    refine g_aload_n X dX10_lay_0 rfl 0 rfl ?_
    refine g_iload_n X dX10_lay_1 rfl 1 rfl ?_
    rcases bndX_some h with ⟨E_3, hf_1, h⟩ | ⟨r_2, hf_1, h⟩
    · cases h
      exact g_xVR_thr (AD := A) (As := [.int a1]) X (ZC_ok _ _ _ _ _) hx0 (m_X10_rowAt hl hf_1) (cwV 1 X.1.2.2.2.2 gX10_lay_X10_rowAt rfl rfl rfl (by decide +kernel) ⟨Nat.le_of_ble_eq_true rfl, Nat.le_of_ble_eq_true rfl⟩) rfl cm0 (cE_0 cy A aK _) rfl rfl (Nat.le_of_ble_eq_true rfl) ⟨thrC_l (β := Int32) _ "", thrS_l (β := Int32) _ ""⟩ dX10_lay_2 rfl rfl (thrC_l (β := Int32) _ "") (thrS_l (β := Int32) _ "")
    refine g_xVR_ret (AD := A) (As := [.int a1]) X (ZC_ok _ _ _ _ _) (m_X10_rowAt hl hf_1) (cwV 1 X.1.2.2.2.2 gX10_lay_X10_rowAt rfl rfl rfl (by decide +kernel) ⟨Nat.le_of_ble_eq_true rfl, Nat.le_of_ble_eq_true rfl⟩) rfl cm0 (cE_0 cy A aK σ) rfl rfl (Nat.le_of_ble_eq_true rfl) ⟨thrC_r _ _, thrS_r _ _⟩ dX10_lay_2 (k' := 0) (n' := 0) (thrC_r _ _) (thrS_r _ _) ?_
    refine g_astore_n X dX10_lay_5 rfl (by decide) (lv' := [(2, .ref (A r_2)), (0, .ref (A 0)), (1, .int a1)]) rfl ?_
    refine g_aload_n X dX10_lay_6 rfl 1 rfl ?_
    refine g_get X (AD := A) cm0 (cE_0 cy A aK σ) hin10 rfl 8 (by decide) lk0 (fun _ h9 => h9) rfl dX10_lay_7 ?_
    obtain ⟨r_5, σ_6, hf_4, h⟩ := bnd2_some h
    refine g_callVI (AD := A) (As := []) X (ZC_ok _ _ _ _ _) (m_X5_readText hf_4) (cwV 0 X.1.2.2.2.2 gX10_lay_X5_readText rfl rfl rfl (by decide +kernel) ⟨Nat.le_of_ble_eq_true rfl, Nat.le_of_ble_eq_true rfl⟩) rfl cm12 (cE_12 cy A aK σ) rfl rfl (Nat.le_of_ble_eq_true rfl) ⟨Nat.zero_le _, Nat.zero_le _⟩ dX10_lay_10 ?_
    refine g_iconst X dX10_lay_13 (v := (-1 : Int32)) (by decide) ?_
    refine g_icmp_eq X (tgt := 27) dX10_lay_14 (by decide) (fun hc_7 => ?_) (fun hc_7 => ?_)
    · have h := ift hc_7 h
      refine g_aload_n X dX10_lay_27 rfl 1 rfl ?_
      refine g_get X (AD := A) cm0 (cE_0 cy A aK σ_6) hin10 rfl 8 (by decide) lk0 (fun _ h9 => h9) rfl dX10_lay_28 ?_
      obtain ⟨r_9, hf_8, h⟩ := bnd_some h
      refine g_callVI (AD := A) (As := []) X (ZC_ok _ _ _ _ _) (m_X5_cardsOfAllRuns hf_8) (cwV 0 X.1.2.2.2.2 gX10_lay_X5_cardsOfAllRuns rfl rfl rfl (by decide +kernel) ⟨Nat.le_of_ble_eq_true rfl, Nat.le_of_ble_eq_true rfl⟩) rfl cm12 (cE_12 cy A aK σ_6) rfl rfl (Nat.le_of_ble_eq_true rfl) ⟨Nat.zero_le _, Nat.zero_le _⟩ dX10_lay_31 ?_
      refine g_istore_n X dX10_lay_34 rfl (by decide) (lv' := [(3, .int r_9), (2, .ref (A r_2)), (0, .ref (A 0)), (1, .int a1)]) rfl ?_
      refine g_aload_n X dX10_lay_35 rfl 1 rfl ?_
      refine g_iload_n X dX10_lay_36 rfl 0 rfl ?_
      rcases bndX_some h with ⟨E_12, hf_10, h⟩ | ⟨r_11, hf_10, h⟩
      · cases h
        exact g_xSV_thr (AD := A) (As := [.ref (A r_2), .int r_9]) X (ZC_ok _ _ _ _ _) hx0 (m_X10_needRoom (f_X10_rowAt_row hf_1) hl hf_10) (va_cwS 2 X.1.2.2.2.2 gX10_lay_X10_needRoom rfl rfl rfl (by decide +kernel) ⟨Nat.le_of_ble_eq_true rfl, Nat.le_of_ble_eq_true rfl⟩) rfl rfl (Nat.le_of_ble_eq_true rfl) ⟨thrC_l (β := Int32) _ "", thrS_l (β := Int32) _ ""⟩ dX10_lay_37 rfl rfl (thrC_l (β := Int32) _ "") (thrS_l (β := Int32) _ "")
      refine g_xSV_ret (AD := A) (As := [.ref (A r_2), .int r_9]) X (ZC_ok _ _ _ _ _) (m_X10_needRoom (f_X10_rowAt_row hf_1) hl hf_10) (va_cwS 2 X.1.2.2.2.2 gX10_lay_X10_needRoom rfl rfl rfl (by decide +kernel) ⟨Nat.le_of_ble_eq_true rfl, Nat.le_of_ble_eq_true rfl⟩) rfl rfl (Nat.le_of_ble_eq_true rfl) ⟨thrC_r _ _, thrS_r _ _⟩ dX10_lay_37 (k' := 0) (n' := 0) (thrC_r _ _) (thrS_r _ _) ?_
      refine g_aload_n X dX10_lay_40 rfl 2 rfl ?_
      refine g_iload_n X dX10_lay_41 rfl 0 rfl ?_
      rcases bndX_some h with ⟨E_15, hf_13, h⟩ | ⟨r_14, hf_13, h⟩
      · cases h
        exact g_xVV_thr (AD := A) (As := [.int r_9]) X (ZC_ok _ _ _ _ _) hx0 (m_X10_needCards hl hf_13) (cwV 1 X.1.2.2.2.2 gX10_lay_X10_needCards rfl rfl rfl (by decide +kernel) ⟨Nat.le_of_ble_eq_true rfl, Nat.le_of_ble_eq_true rfl⟩) rfl cm0 (cE_0 cy A aK _) rfl rfl (Nat.le_of_ble_eq_true rfl) ⟨thrC_l (β := Int32) _ "", thrS_l (β := Int32) _ ""⟩ dX10_lay_42 rfl rfl (thrC_l (β := Int32) _ "") (thrS_l (β := Int32) _ "")
      refine g_xVV_ret (AD := A) (As := [.int r_9]) X (ZC_ok _ _ _ _ _) (m_X10_needCards hl hf_13) (cwV 1 X.1.2.2.2.2 gX10_lay_X10_needCards rfl rfl rfl (by decide +kernel) ⟨Nat.le_of_ble_eq_true rfl, Nat.le_of_ble_eq_true rfl⟩) rfl cm0 (cE_0 cy A aK σ_6) rfl rfl (Nat.le_of_ble_eq_true rfl) ⟨thrC_r _ _, thrS_r _ _⟩ dX10_lay_42 (k' := 0) (n' := 0) (thrC_r _ _) (thrS_r _ _) ?_
      refine g_iconst X dX10_lay_45 (v := (0 : Int32)) (by decide) ?_
      refine g_istore X dX10_lay_46 (by decide) (lv' := [(4, .int (0 : Int32)), (3, .int r_9), (2, .ref (A r_2)), (0, .ref (A 0)), (1, .int a1)]) rfl ?_
      have L_25 : ∀ (c_16 : Nat) (hp_17 : isRow c_16) (c_18 : Int32) (n_21 : Nat) (v_19 : Int32) (σ_20 : St) (σ_26 : St), f_X10_lay_L48 c_16 n_21 v_19 σ_20 = some (σ_26) → gG p l e ({ frames := 11, cells := thrC r, slots := thrS r, locals := 287 } : Room) s m args below meth c D (cyT cy) B 5 (xeI D (cyT cy) (cW cy A aK X9) B below args s r σ' (thrC r) (thrS r)) (cW cy A aK X9 σ_26) 0 0 81 [(3, .int c_18)] [] → gG p l e ({ frames := 11, cells := thrC r, slots := thrS r, locals := 287 } : Room) s m args below meth c D (cyT cy) B 5 (xeI D (cyT cy) (cW cy A aK X9) B below args s r σ' (thrC r) (thrS r)) (cW cy A aK X9 σ_20) 0 0 48 [(0, .ref (A 0)), (2, .ref (A c_16)), (3, .int c_18), (4, .int v_19)] [] := by
        intro c_16 hp_17 c_18 n_21
        induction n_21 with
        | zero =>
          intro v_19 σ_20 σ_26 h K_23
          rw [f_X10_lay_L48] at h
          cases h
        | succ n_21 ih_22 =>
          intro v_19 σ_20 σ_26 h K_23
          rw [f_X10_lay_L48] at h
          refine g_iload X dX10_lay_48 3 rfl ?_
          refine g_aload_n X dX10_lay_50 rfl 0 rfl ?_
          refine g_get X (AD := A) cm0 (cE_0 cy A aK σ_20) hin10 rfl 8 (by decide) lk0 (fun _ h9 => h9) rfl dX10_lay_51 ?_
          refine g_get X (AD := A) cm12 (cE_12 cy A aK σ_20) hin5 rfl 2 (by decide) lk1 (fun _ h9 => h9) rfl dX10_lay_54 ?_
          refine g_icmp_ge X (tgt := 81) dX10_lay_57 (by decide) (fun hc_27 => ?_) (fun hc_27 => ?_)
          · have h := ift hc_27 h
            cases h
            exact g_sub [2] rfl K_23
          · have h := iff_ hc_27 h
            refine g_aload_n X dX10_lay_60 rfl 0 rfl ?_
            refine g_aload_n X dX10_lay_61 rfl 0 rfl ?_
            refine g_get X (AD := A) cm0 (cE_0 cy A aK σ_20) hin10 rfl 8 (by decide) lk0 (fun _ h9 => h9) rfl dX10_lay_62 ?_
            refine g_get X (AD := A) cm12 (cE_12 cy A aK σ_20) hin5 rfl 1 (by decide) lk2 (fun _ h9 => h9) rfl dX10_lay_65 ?_
            refine g_iload X dX10_lay_68 3 rfl ?_
            obtain ⟨hg_28, h⟩ := grd_some h
            refine g_aald X (AD := A) cm13 (cE_13 cy A aK σ_20) 4 rfl hg_28 (v := .ref (A (64 + v_19.toNatClampNeg))) rfl dX10_lay_70 ?_
            refine g_aload_n X dX10_lay_71 rfl 1 rfl ?_
            obtain ⟨σ_30, hf_29, h⟩ := bnd_some h
            refine g_callVV (AD := A) (As := [.ref (A (64 + v_19.toNatClampNeg)), .ref (A c_16)]) X (ZC_ok _ _ _ _ _) (m_X10_layRun (isRun_r hg_28) hp_17 hf_29) (cwV 2 X.1.2.2.2.2 gX10_lay_X10_layRun rfl rfl rfl (by decide +kernel) ⟨Nat.le_of_ble_eq_true rfl, Nat.le_of_ble_eq_true rfl⟩) rfl cm0 (cE_0 cy A aK σ_20) rfl rfl (Nat.le_of_ble_eq_true rfl) ⟨Nat.zero_le _, Nat.zero_le _⟩ dX10_lay_72 ?_
            refine g_iinc X dX10_lay_75 3 rfl (v := v_19 + (1 : Int32)) rfl (by decide) (lv' := [(4, .int (v_19 + (1 : Int32))), (0, .ref (A 0)), (2, .ref (A c_16)), (3, .int c_18)]) rfl ?_
            refine g_goto X (tgt := 48) dX10_lay_78 (by decide) ?_
            exact g_sub [1, 2, 3, 0] rfl (ih_22 _ _ _ h K_23)
      obtain ⟨σ_26, hl_31, h⟩ := bnd_some h
      refine g_sub [3, 2, 1, 0] rfl (L_25 r_2 (f_X10_rowAt_row hf_1) r_9 FU (0 : Int32) σ_6 σ_26 hl_31 ?_)
      refine g_iload_n X dX10_lay_81 rfl 0 rfl ?_
      cases h
      exact g_xret (g_iret (Wf := cW cy A aK X9) X ⟨rfl, rfl⟩ dX10_lay_82)
    · have h := iff_ hc_7 h
      cases h
      exact g_thr_ISE (AD := A) X hl hx0 (is9 := 96) (tx := "the text is not right") (by decide) lk3 lk4 lk5 dX10_lay_17 dX10_lay_20 dX10_lay_21 dX10_lay_23 dX10_lay_26 (by decide) (Nat.le_of_ble_eq_true rfl) ⟨thrC_t (β := Int32) "", thrS_t (β := Int32) ""⟩ rfl rfl (thrC_t (β := Int32) "") (thrS_t (β := Int32) "")
  exact K0
set_option maxHeartbeats 8000000 in
set_option maxRecDepth 100000 in
theorem m_X10_put {σ : St} {a1 : Int32} {a2 : Int32} {a3 : Int32} {a4 : Int32} {r : String ⊕ Int32} {σ' : St} (hl : l.stackTraces = false) (h : f_X10_put a1 a2 a3 a4 σ = some (r, σ')) : xI (ZC aK aO aS aV aT) D (cyT cy) l yX10_put wsX10_put ({ frames := 7, cells := thrC r, slots := thrS r, locals := 151 } : Room) (cW cy A aK X9) [.ref (A 0), .int a1, .int a2, .int a3, .int a4] σ r σ' (thrC r) (thrS r) := by
  unfold f_X10_put at h
  refine xI_of (cc := cX10_put) (maxL := 7) (ret := (some .int)) (by decide) rfl (Nat.le_of_ble_eq_true rfl) (fun p e s m args below meth c B X hx0 => ?_)
  have hin10 : ∀ w ∈ wsX100, w ∈ wsX10_put := by decide +kernel
  have hin6 : ∀ w ∈ wsX60, w ∈ wsX10_put := by decide +kernel
  have lk0 : Cond.classLink RX10 123 "java/lang/IndexOutOfBoundsException" ∈ wsX10_put := by decide +kernel
  have lk1 : Cond.initialized "java/lang/IndexOutOfBoundsException" ∈ wsX10_put := by decide +kernel
  have lk2 : ∀ w ∈ (vx_atS RX10 127 "java/lang/IndexOutOfBoundsException" ["java/lang/RuntimeException", "java/lang/Exception"]).filter goodWord, w ∈ wsX10_put := by decide +kernel
  have lk3 : Cond.fieldLink RX10 120 "Cardcabinet$Row" "size" "I" ∈ wsX10_put := by decide +kernel
  have lk4 : Cond.fieldLink RX10 12 "Cardcabinet" "deck" "LCardcabinet$Deck;" ∈ wsX10_put := by decide +kernel
  have K0 : gG p l e ({ frames := 7, cells := thrC r, slots := thrS r, locals := 151 } : Room) s m args below meth c D (cyT cy) B 7 (xeI D (cyT cy) (cW cy A aK X9) B below args s r σ' (thrC r) (thrS r)) (cW cy A aK X9 σ) 0 0 0 [(0, .ref (A 0)), (1, .int a1), (2, .int a2), (3, .int a3), (4, .int a4)] [] := by
    refine g_aload_n X dX10_put_0 rfl 0 rfl ?_
    refine g_iload_n X dX10_put_1 rfl 1 rfl ?_
    rcases bndX_some h with ⟨E_3, hf_1, h⟩ | ⟨r_2, hf_1, h⟩
    · cases h
      exact g_xVR_thr (AD := A) (As := [.int a1]) X (ZC_ok _ _ _ _ _) hx0 (m_X10_rowAt hl hf_1) (cwV 1 X.1.2.2.2.2 gX10_put_X10_rowAt rfl rfl rfl (by decide +kernel) ⟨Nat.le_of_ble_eq_true rfl, Nat.le_of_ble_eq_true rfl⟩) rfl cm0 (cE_0 cy A aK _) rfl rfl (Nat.le_of_ble_eq_true rfl) ⟨thrC_l (β := Int32) _ "", thrS_l (β := Int32) _ ""⟩ dX10_put_2 rfl rfl (thrC_l (β := Int32) _ "") (thrS_l (β := Int32) _ "")
    refine g_xVR_ret (AD := A) (As := [.int a1]) X (ZC_ok _ _ _ _ _) (m_X10_rowAt hl hf_1) (cwV 1 X.1.2.2.2.2 gX10_put_X10_rowAt rfl rfl rfl (by decide +kernel) ⟨Nat.le_of_ble_eq_true rfl, Nat.le_of_ble_eq_true rfl⟩) rfl cm0 (cE_0 cy A aK σ) rfl rfl (Nat.le_of_ble_eq_true rfl) ⟨thrC_r _ _, thrS_r _ _⟩ dX10_put_2 (k' := 0) (n' := 0) (thrC_r _ _) (thrS_r _ _) ?_
    refine g_astore X dX10_put_5 (by decide) (lv' := [(5, .ref (A r_2)), (0, .ref (A 0)), (1, .int a1), (2, .int a2), (3, .int a3), (4, .int a4)]) rfl ?_
    refine g_iload_n X dX10_put_7 rfl 3 rfl ?_
    refine g_if_lt X (tgt := 20) dX10_put_8 (by decide) (fun hc_4 => ?_) (fun hc_4 => ?_)
    · have h := ift hc_4 h
      cases h
      exact g_thr_IOOBE (AD := A) X hl hx0 (is9 := 125) (tx := "no such place") (by decide) lk0 lk1 lk2 dX10_put_20 dX10_put_23 dX10_put_24 dX10_put_26 dX10_put_29 (by decide) (Nat.le_of_ble_eq_true rfl) ⟨thrC_t (β := Int32) "", thrS_t (β := Int32) ""⟩ rfl rfl (thrC_t (β := Int32) "") (thrS_t (β := Int32) "")
    · have h := iff_ hc_4 h
      refine g_iload_n X dX10_put_11 rfl 3 rfl ?_
      refine g_aload X dX10_put_12 0 rfl ?_
      refine g_get X (AD := A) ((f_X10_rowAt_row hf_1)).mem (cE_row cy A aK σ (f_X10_rowAt_row hf_1)) hin6 rfl 1 (by decide) lk3 (fun _ h9 => h9) rfl dX10_put_14 ?_
      refine g_icmp_le X (tgt := 30) dX10_put_17 (by decide) (fun hc_5 => ?_) (fun hc_5 => ?_)
      · have h := ift hc_5 h
        refine g_aload X dX10_put_30 0 rfl ?_
        refine g_iconst X dX10_put_32 (v := (1 : Int32)) (by decide) ?_
        rcases bndX_some h with ⟨E_8, hf_6, h⟩ | ⟨r_7, hf_6, h⟩
        · cases h
          exact g_xSV_thr (AD := A) (As := [.ref (A r_2), .int (1 : Int32)]) X (ZC_ok _ _ _ _ _) hx0 (m_X10_needRoom (f_X10_rowAt_row hf_1) hl hf_6) (va_cwS 2 X.1.2.2.2.2 gX10_put_X10_needRoom rfl rfl rfl (by decide +kernel) ⟨Nat.le_of_ble_eq_true rfl, Nat.le_of_ble_eq_true rfl⟩) rfl rfl (Nat.le_of_ble_eq_true rfl) ⟨thrC_l (β := Int32) _ "", thrS_l (β := Int32) _ ""⟩ dX10_put_33 rfl rfl (thrC_l (β := Int32) _ "") (thrS_l (β := Int32) _ "")
        refine g_xSV_ret (AD := A) (As := [.ref (A r_2), .int (1 : Int32)]) X (ZC_ok _ _ _ _ _) (m_X10_needRoom (f_X10_rowAt_row hf_1) hl hf_6) (va_cwS 2 X.1.2.2.2.2 gX10_put_X10_needRoom rfl rfl rfl (by decide +kernel) ⟨Nat.le_of_ble_eq_true rfl, Nat.le_of_ble_eq_true rfl⟩) rfl rfl (Nat.le_of_ble_eq_true rfl) ⟨thrC_r _ _, thrS_r _ _⟩ dX10_put_33 (k' := 0) (n' := 0) (thrC_r _ _) (thrS_r _ _) ?_
        refine g_aload_n X dX10_put_36 rfl 1 rfl ?_
        refine g_iconst X dX10_put_37 (v := (1 : Int32)) (by decide) ?_
        rcases bndX_some h with ⟨E_11, hf_9, h⟩ | ⟨r_10, hf_9, h⟩
        · cases h
          exact g_xVV_thr (AD := A) (As := [.int (1 : Int32)]) X (ZC_ok _ _ _ _ _) hx0 (m_X10_needCards hl hf_9) (cwV 1 X.1.2.2.2.2 gX10_put_X10_needCards rfl rfl rfl (by decide +kernel) ⟨Nat.le_of_ble_eq_true rfl, Nat.le_of_ble_eq_true rfl⟩) rfl cm0 (cE_0 cy A aK _) rfl rfl (Nat.le_of_ble_eq_true rfl) ⟨thrC_l (β := Int32) _ "", thrS_l (β := Int32) _ ""⟩ dX10_put_38 rfl rfl (thrC_l (β := Int32) _ "") (thrS_l (β := Int32) _ "")
        refine g_xVV_ret (AD := A) (As := [.int (1 : Int32)]) X (ZC_ok _ _ _ _ _) (m_X10_needCards hl hf_9) (cwV 1 X.1.2.2.2.2 gX10_put_X10_needCards rfl rfl rfl (by decide +kernel) ⟨Nat.le_of_ble_eq_true rfl, Nat.le_of_ble_eq_true rfl⟩) rfl cm0 (cE_0 cy A aK σ) rfl rfl (Nat.le_of_ble_eq_true rfl) ⟨thrC_r _ _, thrS_r _ _⟩ dX10_put_38 (k' := 0) (n' := 0) (thrC_r _ _) (thrS_r _ _) ?_
        refine g_aload_n X dX10_put_41 rfl 1 rfl ?_
        refine g_get X (AD := A) cm0 (cE_0 cy A aK σ) hin10 rfl 0 (by decide) lk4 (fun _ h9 => h9) rfl dX10_put_42 ?_
        refine g_iload_n X dX10_put_45 rfl 4 rfl ?_
        refine g_iload X dX10_put_46 5 rfl ?_
        obtain ⟨r_13, σ_14, hf_12, h⟩ := bnd2_some h
        refine g_callVI (AD := A) (As := [.int a3, .int a4]) X (ZC_ok _ _ _ _ _) (m_X1_make hf_12) (cwV 2 X.1.2.2.2.2 gX10_put_X1_make rfl rfl rfl (by decide +kernel) ⟨Nat.le_of_ble_eq_true rfl, Nat.le_of_ble_eq_true rfl⟩) rfl cm1 (cE_1 cy A aK σ) rfl rfl (Nat.le_of_ble_eq_true rfl) ⟨Nat.zero_le _, Nat.zero_le _⟩ dX10_put_48 ?_
        refine g_istore X dX10_put_51 (by decide) (lv' := [(6, .int r_13), (5, .ref (A r_2)), (0, .ref (A 0)), (1, .int a1), (2, .int a2), (3, .int a3), (4, .int a4)]) rfl ?_
        refine g_aload X dX10_put_53 1 rfl ?_
        refine g_iload_n X dX10_put_55 rfl 4 rfl ?_
        refine g_iload X dX10_put_56 0 rfl ?_
        obtain ⟨σ_16, hf_15, h⟩ := bnd_some h
        refine g_callVV (AD := A) (As := [.int a2, .int r_13]) X (ZC_ok _ _ _ _ _) (m_X6_insert (f_X10_rowAt_row hf_1) hf_15) (cwV 2 X.1.2.2.2.2 gX10_put_X6_insert rfl rfl rfl (by decide +kernel) ⟨Nat.le_of_ble_eq_true rfl, Nat.le_of_ble_eq_true rfl⟩) rfl ((f_X10_rowAt_row hf_1)).mem (cE_row cy A aK σ_14 (f_X10_rowAt_row hf_1)) rfl rfl (Nat.le_of_ble_eq_true rfl) ⟨Nat.zero_le _, Nat.zero_le _⟩ dX10_put_58 ?_
        refine g_iload X dX10_put_61 0 rfl ?_
        cases h
        exact g_xret (g_iret (Wf := cW cy A aK X9) X ⟨rfl, rfl⟩ dX10_put_63)
      · have h := iff_ hc_5 h
        cases h
        exact g_thr_IOOBE (AD := A) X hl hx0 (is9 := 125) (tx := "no such place") (by decide) lk0 lk1 lk2 dX10_put_20 dX10_put_23 dX10_put_24 dX10_put_26 dX10_put_29 (by decide) (Nat.le_of_ble_eq_true rfl) ⟨thrC_t (β := Int32) "", thrS_t (β := Int32) ""⟩ rfl rfl (thrC_t (β := Int32) "") (thrS_t (β := Int32) "")
  exact K0
set_option maxHeartbeats 8000000 in
set_option maxRecDepth 100000 in
theorem m_X10_setSeed {σ : St} {a1 : Int32} {r : Int32} {σ' : St} (h : f_X10_setSeed a1 σ = some (r, σ')) : mI (ZC aK aO aS aV aT) D (cyT cy) l yX10_setSeed wsX10_setSeed ({ frames := 0, cells := 0, slots := 0, locals := 0 } : Room) (cW cy A aK X9) [.ref (A 0), .int a1] σ r σ' := by
  unfold f_X10_setSeed at h
  refine mI_of (cc := cX10_setSeed) (maxL := 3) (ret := (some .int)) (by decide) rfl (Nat.le_of_ble_eq_true rfl) (fun p e s m args below meth c B X => ?_)
  have hin10 : ∀ w ∈ wsX100, w ∈ wsX10_setSeed := by decide +kernel
  have hin2 : ∀ w ∈ wsX20, w ∈ wsX10_setSeed := by decide +kernel
  have lk0 : Cond.fieldLink RX10 65 "Cardcabinet" "draws" "LCardcabinet$Draws;" ∈ wsX10_setSeed := by decide +kernel
  have lk1 : Cond.fieldLink RX10 136 "Cardcabinet$Draws" "seed" "I" ∈ wsX10_setSeed := by decide +kernel
  have K0 : gG p l e ({ frames := 0, cells := 0, slots := 0, locals := 0 } : Room) s m args below meth c D (cyT cy) B 3 (eI D (cyT cy) (cW cy A aK X9) B below args s r σ') (cW cy A aK X9 σ) 0 0 0 [(0, .ref (A 0)), (1, .int a1)] [] := by
    refine g_aload_n X dX10_setSeed_0 rfl 0 rfl ?_
    refine g_get X (AD := A) cm0 (cE_0 cy A aK σ) hin10 rfl 9 (by decide) lk0 (fun _ h9 => h9) rfl dX10_setSeed_1 ?_
    refine g_get X (AD := A) cm14 (cE_14 cy A aK σ) hin2 rfl 0 (by decide) lk1 (fun _ h9 => h9) rfl dX10_setSeed_4 ?_
    refine g_istore_n X dX10_setSeed_7 rfl (by decide) (lv' := [(2, .int (gi σ 112)), (0, .ref (A 0)), (1, .int a1)]) rfl ?_
    refine g_aload_n X dX10_setSeed_8 rfl 1 rfl ?_
    refine g_get X (AD := A) cm0 (cE_0 cy A aK σ) hin10 rfl 9 (by decide) lk0 (fun _ h9 => h9) rfl dX10_setSeed_9 ?_
    refine g_iload_n X dX10_setSeed_12 rfl 2 rfl ?_
    refine g_put X (AD := A) (ty := .int) (v := .int a1) (σ' := si σ 112 a1) cm14 (cE_14 cy A aK σ) hin2 rfl tyX2 tyX2_ok nmX2 0 (by decide) lk1 (fun _ h9 => h9) rfl (by decide +kernel) rfl rfl (Nat.le_of_ble_eq_true rfl) (sf_c112 cy A aK σ a1) dX10_setSeed_13 ?_
    refine g_iload_n X dX10_setSeed_16 rfl 0 rfl ?_
    cases h
    exact g_iret (Wf := cW cy A aK X9) X ⟨rfl, rfl⟩ dX10_setSeed_17
  exact K0
set_option maxHeartbeats 8000000 in
set_option maxRecDepth 100000 in
theorem m_X10_arrangePart {σ : St} {a1 : Nat} {a2 : Int32} {a3 : Int32} {a4 : Nat} {r : Int32} {σ' : St} (h1 : isRow a1) (h4 : a4 < 4) (h : f_X10_arrangePart a1 a2 a3 a4 σ = some (r, σ')) : mI (ZC aK aO aS aV aT) D (cyT cy) l yX10_arrangePart wsX10_arrangePart ({ frames := 4, cells := 0, slots := 0, locals := 119 } : Room) (cW cy A aK X9) [.ref (A 0), .ref (A a1), .int a2, .int a3, .ref (aO a4)] σ r σ' := by
  unfold f_X10_arrangePart at h
  refine mI_of (cc := cX10_arrangePart) (maxL := 5) (ret := (some .int)) (by decide) rfl (Nat.le_of_ble_eq_true rfl) (fun p e s m args below meth c B X => ?_)
  have hin10 : ∀ w ∈ wsX100, w ∈ wsX10_arrangePart := by decide +kernel
  have lk0 : Cond.fieldLink RX10 42 "Cardcabinet" "sorter" "LCardcabinet$Sorter;" ∈ wsX10_arrangePart := by decide +kernel
  have K0 : gG p l e ({ frames := 4, cells := 0, slots := 0, locals := 119 } : Room) s m args below meth c D (cyT cy) B 5 (eI D (cyT cy) (cW cy A aK X9) B below args s r σ') (cW cy A aK X9 σ) 0 0 0 [(0, .ref (A 0)), (1, .ref (A a1)), (2, .int a2), (3, .int a3), (4, .ref (aO a4))] [] := by
    refine g_aload_n X dX10_arrangePart_0 rfl 0 rfl ?_
    refine g_get X (AD := A) cm0 (cE_0 cy A aK σ) hin10 rfl 6 (by decide) lk0 (fun _ h9 => h9) rfl dX10_arrangePart_1 ?_
    obtain ⟨σ_2, hf_1, h⟩ := bnd_some h
    refine g_callVV (AD := A) (As := []) X (ZC_ok _ _ _ _ _) (m_X8_clear hf_1) (cwV 0 X.1.2.2.2.2 gX10_arrangePart_X8_clear rfl rfl rfl (by decide +kernel) ⟨Nat.le_of_ble_eq_true rfl, Nat.le_of_ble_eq_true rfl⟩) rfl cm7 (cE_7 cy A aK σ) rfl rfl (Nat.le_of_ble_eq_true rfl) ⟨Nat.zero_le _, Nat.zero_le _⟩ dX10_arrangePart_4 ?_
    refine g_aload_n X dX10_arrangePart_7 rfl 0 rfl ?_
    refine g_get X (AD := A) cm0 (cE_0 cy A aK σ_2) hin10 rfl 6 (by decide) lk0 (fun _ h9 => h9) rfl dX10_arrangePart_8 ?_
    refine g_aload_n X dX10_arrangePart_11 rfl 1 rfl ?_
    refine g_iload_n X dX10_arrangePart_12 rfl 2 rfl ?_
    refine g_iload_n X dX10_arrangePart_13 rfl 3 rfl ?_
    obtain ⟨σ_4, hf_3, h⟩ := bnd_some h
    refine g_callVV (AD := A) (As := [.ref (A a1), .int a2, .int a3]) X (ZC_ok _ _ _ _ _) (m_X8_take h1 hf_3) (cwV 3 X.1.2.2.2.2 gX10_arrangePart_X8_take rfl rfl rfl (by decide +kernel) ⟨Nat.le_of_ble_eq_true rfl, Nat.le_of_ble_eq_true rfl⟩) rfl cm7 (cE_7 cy A aK σ_2) rfl rfl (Nat.le_of_ble_eq_true rfl) ⟨Nat.zero_le _, Nat.zero_le _⟩ dX10_arrangePart_14 ?_
    refine g_aload_n X dX10_arrangePart_17 rfl 0 rfl ?_
    refine g_get X (AD := A) cm0 (cE_0 cy A aK σ_4) hin10 rfl 6 (by decide) lk0 (fun _ h9 => h9) rfl dX10_arrangePart_18 ?_
    refine g_aload X dX10_arrangePart_21 4 rfl ?_
    obtain ⟨r_6, σ_7, hf_5, h⟩ := bnd2_some h
    refine g_callVI (AD := A) (As := [.ref (aO a4)]) X (ZC_ok _ _ _ _ _) (m_X8_arrange h4 hf_5) (cwV 1 X.1.2.2.2.2 gX10_arrangePart_X8_arrange rfl rfl rfl (by decide +kernel) ⟨Nat.le_of_ble_eq_true rfl, Nat.le_of_ble_eq_true rfl⟩) rfl cm7 (cE_7 cy A aK σ_4) rfl rfl (Nat.le_of_ble_eq_true rfl) ⟨Nat.zero_le _, Nat.zero_le _⟩ dX10_arrangePart_23 ?_
    refine g_pop X dX10_arrangePart_26 rfl ?_
    refine g_aload_n X dX10_arrangePart_27 rfl 0 rfl ?_
    refine g_get X (AD := A) cm0 (cE_0 cy A aK σ_7) hin10 rfl 6 (by decide) lk0 (fun _ h9 => h9) rfl dX10_arrangePart_28 ?_
    refine g_iconst X dX10_arrangePart_31 (v := (0 : Int32)) (by decide) ?_
    refine g_aload_n X dX10_arrangePart_32 rfl 1 rfl ?_
    refine g_iload_n X dX10_arrangePart_33 rfl 2 rfl ?_
    refine g_iload_n X dX10_arrangePart_34 rfl 3 rfl ?_
    obtain ⟨r_9, σ_10, hf_8, h⟩ := bnd2_some h
    refine g_callVI (AD := A) (As := [.int (0 : Int32), .ref (A a1), .int a2, .int a3]) X (ZC_ok _ _ _ _ _) (m_X8_layBack h1 hf_8) (cwV 4 X.1.2.2.2.2 gX10_arrangePart_X8_layBack rfl rfl rfl (by decide +kernel) ⟨Nat.le_of_ble_eq_true rfl, Nat.le_of_ble_eq_true rfl⟩) rfl cm7 (cE_7 cy A aK σ_7) rfl rfl (Nat.le_of_ble_eq_true rfl) ⟨Nat.zero_le _, Nat.zero_le _⟩ dX10_arrangePart_35 ?_
    cases h
    exact g_iret (Wf := cW cy A aK X9) X ⟨rfl, rfl⟩ dX10_arrangePart_38
  exact K0
set_option maxHeartbeats 8000000 in
set_option maxRecDepth 100000 in
theorem m_X10_arrangeRow {σ : St} {a1 : Nat} {a2 : Nat} {r : Int32} {σ' : St} (h1 : isRow a1) (h2 : a2 < 4) (h : f_X10_arrangeRow a1 a2 σ = some (r, σ')) : mI (ZC aK aO aS aV aT) D (cyT cy) l yX10_arrangeRow wsX10_arrangeRow ({ frames := 5, cells := 0, slots := 0, locals := 143 } : Room) (cW cy A aK X9) [.ref (A 0), .ref (A a1), .ref (aO a2)] σ r σ' := by
  unfold f_X10_arrangeRow at h
  refine mI_of (cc := cX10_arrangeRow) (maxL := 3) (ret := (some .int)) (by decide) rfl (Nat.le_of_ble_eq_true rfl) (fun p e s m args below meth c B X => ?_)
  have hin6 : ∀ w ∈ wsX60, w ∈ wsX10_arrangeRow := by decide +kernel
  have lk0 : Cond.fieldLink RX10 120 "Cardcabinet$Row" "size" "I" ∈ wsX10_arrangeRow := by decide +kernel
  have K0 : gG p l e ({ frames := 5, cells := 0, slots := 0, locals := 143 } : Room) s m args below meth c D (cyT cy) B 3 (eI D (cyT cy) (cW cy A aK X9) B below args s r σ') (cW cy A aK X9 σ) 0 0 0 [(0, .ref (A 0)), (1, .ref (A a1)), (2, .ref (aO a2))] [] := by
    refine g_aload_n X dX10_arrangeRow_0 rfl 0 rfl ?_
    refine g_aload_n X dX10_arrangeRow_1 rfl 1 rfl ?_
    refine g_iconst X dX10_arrangeRow_2 (v := (0 : Int32)) (by decide) ?_
    refine g_aload_n X dX10_arrangeRow_3 rfl 1 rfl ?_
    refine g_get X (AD := A) (h1).mem (cE_row cy A aK σ h1) hin6 rfl 1 (by decide) lk0 (fun _ h9 => h9) rfl dX10_arrangeRow_4 ?_
    refine g_aload_n X dX10_arrangeRow_7 rfl 2 rfl ?_
    obtain ⟨r_2, σ_3, hf_1, h⟩ := bnd2_some h
    refine g_callVI (AD := A) (As := [.ref (A a1), .int (0 : Int32), .int (gi σ (8 * a1 + 1)), .ref (aO a2)]) X (ZC_ok _ _ _ _ _) (m_X10_arrangePart h1 h2 hf_1) (cwV 4 X.1.2.2.2.2 gX10_arrangeRow_X10_arrangePart rfl rfl rfl (by decide +kernel) ⟨Nat.le_of_ble_eq_true rfl, Nat.le_of_ble_eq_true rfl⟩) rfl cm0 (cE_0 cy A aK σ) rfl rfl (Nat.le_of_ble_eq_true rfl) ⟨Nat.zero_le _, Nat.zero_le _⟩ dX10_arrangeRow_8 ?_
    cases h
    exact g_iret (Wf := cW cy A aK X9) X ⟨rfl, rfl⟩ dX10_arrangeRow_11
  exact K0
set_option maxHeartbeats 8000000 in
set_option maxRecDepth 100000 in
theorem m_X10_sort {σ : St} {a1 : Int32} {r : String ⊕ Int32} {σ' : St} (hl : l.stackTraces = false) (h : f_X10_sort a1 σ = some (r, σ')) : xI (ZC aK aO aS aV aT) D (cyT cy) l yX10_sort wsX10_sort ({ frames := 7, cells := thrC r, slots := thrS r, locals := 165 } : Room) (cW cy A aK X9) [.ref (A 0), .int a1] σ r σ' (thrC r) (thrS r) := by
  unfold f_X10_sort at h
  refine xI_of (cc := cX10_sort) (maxL := 2) (ret := (some .int)) (by decide) rfl (Nat.le_of_ble_eq_true rfl) (fun p e s m args below meth c B X hx0 => ?_)
  have lk0 : Cond.fieldLink RX10 139 "Cardcabinet$Order" "BY_FIRST" "LCardcabinet$Order;" ∈ wsX10_sort := by decide +kernel
  have K0 : gG p l e ({ frames := 7, cells := thrC r, slots := thrS r, locals := 165 } : Room) s m args below meth c D (cyT cy) B 2 (xeI D (cyT cy) (cW cy A aK X9) B below args s r σ' (thrC r) (thrS r)) (cW cy A aK X9 σ) 0 0 0 [(0, .ref (A 0)), (1, .int a1)] [] := by
    refine g_aload_n X dX10_sort_0 rfl 0 rfl ?_
    refine g_aload_n X dX10_sort_1 rfl 0 rfl ?_
    refine g_iload_n X dX10_sort_2 rfl 1 rfl ?_
    rcases bndX_some h with ⟨E_3, hf_1, h⟩ | ⟨r_2, hf_1, h⟩
    · cases h
      exact g_xVR_thr (AD := A) (As := [.int a1]) X (ZC_ok _ _ _ _ _) hx0 (m_X10_rowAt hl hf_1) (cwV 1 X.1.2.2.2.2 gX10_sort_X10_rowAt rfl rfl rfl (by decide +kernel) ⟨Nat.le_of_ble_eq_true rfl, Nat.le_of_ble_eq_true rfl⟩) rfl cm0 (cE_0 cy A aK _) rfl rfl (Nat.le_of_ble_eq_true rfl) ⟨thrC_l (β := Int32) _ "", thrS_l (β := Int32) _ ""⟩ dX10_sort_3 rfl rfl (thrC_l (β := Int32) _ "") (thrS_l (β := Int32) _ "")
    refine g_xVR_ret (AD := A) (As := [.int a1]) X (ZC_ok _ _ _ _ _) (m_X10_rowAt hl hf_1) (cwV 1 X.1.2.2.2.2 gX10_sort_X10_rowAt rfl rfl rfl (by decide +kernel) ⟨Nat.le_of_ble_eq_true rfl, Nat.le_of_ble_eq_true rfl⟩) rfl cm0 (cE_0 cy A aK σ) rfl rfl (Nat.le_of_ble_eq_true rfl) ⟨thrC_r _ _, thrS_r _ _⟩ dX10_sort_3 (k' := 0) (n' := 0) (thrC_r _ _) (thrS_r _ _) ?_
    refine g_sO X (i := 0) (by decide) lk0 dX10_sort_6 ?_
    obtain ⟨r_5, σ_6, hf_4, h⟩ := bnd2_some h
    refine g_callVI (AD := A) (As := [.ref (A r_2), .ref (aO 0)]) X (ZC_ok _ _ _ _ _) (m_X10_arrangeRow (f_X10_rowAt_row hf_1) (by decide) hf_4) (cwV 2 X.1.2.2.2.2 gX10_sort_X10_arrangeRow rfl rfl rfl (by decide +kernel) ⟨Nat.le_of_ble_eq_true rfl, Nat.le_of_ble_eq_true rfl⟩) rfl cm0 (cE_0 cy A aK σ) rfl rfl (Nat.le_of_ble_eq_true rfl) ⟨Nat.zero_le _, Nat.zero_le _⟩ dX10_sort_9 ?_
    cases h
    exact g_xret (g_iret (Wf := cW cy A aK X9) X ⟨rfl, rfl⟩ dX10_sort_12)
  exact K0
end MV
