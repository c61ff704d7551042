section MV
variable {D : va_G} {cy : Nat → ClassId} {A aK aO aS aV aT : Nat → Nat} {l : Launch} {X9 : va_W}
set_option maxHeartbeats 8000000 in
set_option maxRecDepth 100000 in
theorem m_X10_sortAll {σ : St} {r : Int32} {σ' : St} (h : f_X10_sortAll σ = some (r, σ')) : mI (ZC aK aO aS aV aT) D (cyT cy) l yX10_sortAll wsX10_sortAll ({ frames := 4, cells := 0, slots := 0, locals := 119 } : Room) (cW cy A aK X9) [.ref (A 0)] σ r σ' := by
  unfold f_X10_sortAll at h
  refine mI_of (cc := cX10_sortAll) (maxL := 4) (ret := (some .int)) (by decide) rfl (Nat.le_of_ble_eq_true rfl) (fun p e s m args below meth c B X => ?_)
  have hin10 : ∀ w ∈ wsX100, w ∈ wsX10_sortAll := by decide +kernel
  have hin6 : ∀ w ∈ wsX60, w ∈ wsX10_sortAll := by decide +kernel
  have lk0 : Cond.fieldLink RX10 42 "Cardcabinet" "sorter" "LCardcabinet$Sorter;" ∈ wsX10_sortAll := by decide +kernel
  have lk1 : Cond.fieldLink RX10 18 "Cardcabinet" "rows" "[LCardcabinet$Row;" ∈ wsX10_sortAll := by decide +kernel
  have lk2 : Cond.fieldLink RX10 120 "Cardcabinet$Row" "size" "I" ∈ wsX10_sortAll := by decide +kernel
  have lk3 : Cond.fieldLink RX10 139 "Cardcabinet$Order" "BY_FIRST" "LCardcabinet$Order;" ∈ wsX10_sortAll := by decide +kernel
  have K0 : gG p l e ({ frames := 4, cells := 0, slots := 0, locals := 119 } : Room) s m args below meth c D (cyT cy) B 4 (eI D (cyT cy) (cW cy A aK X9) B below args s r σ') (cW cy A aK X9 σ) 0 0 0 [(0, .ref (A 0))] [] := by
    refine g_aload_n X dX10_sortAll_0 rfl 0 rfl ?_
    refine g_get X (AD := A) cm0 (cE_0 cy A aK σ) hin10 rfl 6 (by decide) lk0 (fun _ h9 => h9) rfl dX10_sortAll_1 ?_
    obtain ⟨σ_2, hf_1, h⟩ := bnd_some h
    refine g_callVV (AD := A) (As := []) X (ZC_ok _ _ _ _ _) (m_X8_clear hf_1) (cwV 0 X.1.2.2.2.2 gX10_sortAll_X8_clear rfl rfl rfl (by decide +kernel) ⟨Nat.le_of_ble_eq_true rfl, Nat.le_of_ble_eq_true rfl⟩) rfl cm7 (cE_7 cy A aK σ) rfl rfl (Nat.le_of_ble_eq_true rfl) ⟨Nat.zero_le _, Nat.zero_le _⟩ dX10_sortAll_4 ?_
    refine g_iconst X dX10_sortAll_7 (v := (0 : Int32)) (by decide) ?_
    refine g_istore_n X dX10_sortAll_8 rfl (by decide) (lv' := [(1, .int (0 : Int32)), (0, .ref (A 0))]) rfl ?_
    have L_9 : ∀ (n_5 : Nat) (v_3 : Int32) (σ_4 : St) (σ_10 : St), f_X10_sortAll_L9 n_5 v_3 σ_4 = some (σ_10) → gG p l e ({ frames := 4, cells := 0, slots := 0, locals := 119 } : Room) s m args below meth c D (cyT cy) B 4 (eI D (cyT cy) (cW cy A aK X9) B below args s r σ') (cW cy A aK X9 σ_10) 0 0 43 [(0, .ref (A 0))] [] → gG p l e ({ frames := 4, cells := 0, slots := 0, locals := 119 } : Room) s m args below meth c D (cyT cy) B 4 (eI D (cyT cy) (cW cy A aK X9) B below args s r σ') (cW cy A aK X9 σ_4) 0 0 9 [(0, .ref (A 0)), (1, .int v_3)] [] := by
      intro n_5
      induction n_5 with
      | zero =>
        intro v_3 σ_4 σ_10 h K_7
        rw [f_X10_sortAll_L9] at h
        cases h
      | succ n_5 ih_6 =>
        intro v_3 σ_4 σ_10 h K_7
        rw [f_X10_sortAll_L9] at h
        refine g_iload_n X dX10_sortAll_9 rfl 1 rfl ?_
        refine g_iconst X dX10_sortAll_10 (v := (4 : Int32)) (by decide) ?_
        refine g_icmp_ge X (tgt := 43) dX10_sortAll_11 (by decide) (fun hc_11 => ?_) (fun hc_11 => ?_)
        · have h := ift hc_11 h
          cases h
          exact g_sub [0] rfl K_7
        · have h := iff_ hc_11 h
          refine g_aload_n X dX10_sortAll_14 rfl 0 rfl ?_
          refine g_get X (AD := A) cm0 (cE_0 cy A aK σ_4) hin10 rfl 6 (by decide) lk0 (fun _ h9 => h9) rfl dX10_sortAll_15 ?_
          refine g_aload_n X dX10_sortAll_18 rfl 0 rfl ?_
          refine g_get X (AD := A) cm0 (cE_0 cy A aK σ_4) hin10 rfl 1 (by decide) lk1 (fun _ h9 => h9) rfl dX10_sortAll_19 ?_
          refine g_iload_n X dX10_sortAll_22 rfl 1 rfl ?_
          obtain ⟨hg_12, h⟩ := grd_some h
          refine g_aald X (AD := A) cm4 (cE_4 cy A aK σ_4) 3 rfl hg_12 (v := .ref (A (16 + v_3.toNatClampNeg))) rfl dX10_sortAll_23 ?_
          refine g_iconst X dX10_sortAll_24 (v := (0 : Int32)) (by decide) ?_
          refine g_aload_n X dX10_sortAll_25 rfl 0 rfl ?_
          refine g_get X (AD := A) cm0 (cE_0 cy A aK σ_4) hin10 rfl 1 (by decide) lk1 (fun _ h9 => h9) rfl dX10_sortAll_26 ?_
          refine g_iload_n X dX10_sortAll_29 rfl 1 rfl ?_
          obtain ⟨hg_13, h⟩ := grd_some h
          refine g_aald X (AD := A) cm4 (cE_4 cy A aK σ_4) 3 rfl hg_13 (v := .ref (A (16 + v_3.toNatClampNeg))) rfl dX10_sortAll_30 ?_
          refine g_get X (AD := A) ((isRow_r hg_13)).mem (cE_row cy A aK σ_4 (isRow_r hg_13)) hin6 rfl 1 (by decide) lk2 (fun _ h9 => h9) rfl dX10_sortAll_31 ?_
          obtain ⟨σ_15, hf_14, h⟩ := bnd_some h
          refine g_callVV (AD := A) (As := [.ref (A (16 + v_3.toNatClampNeg)), .int (0 : Int32), .int (gi σ_4 (8 * (16 + v_3.toNatClampNeg) + 1))]) X (ZC_ok _ _ _ _ _) (m_X8_take (isRow_r hg_12) hf_14) (cwV 3 X.1.2.2.2.2 gX10_sortAll_X8_take rfl rfl rfl (by decide +kernel) ⟨Nat.le_of_ble_eq_true rfl, Nat.le_of_ble_eq_true rfl⟩) rfl cm7 (cE_7 cy A aK σ_4) rfl rfl (Nat.le_of_ble_eq_true rfl) ⟨Nat.zero_le _, Nat.zero_le _⟩ dX10_sortAll_34 ?_
          refine g_iinc X dX10_sortAll_37 1 rfl (v := v_3 + (1 : Int32)) rfl (by decide) (lv' := [(1, .int (v_3 + (1 : Int32))), (0, .ref (A 0))]) rfl ?_
          refine g_goto X (tgt := 9) dX10_sortAll_40 (by decide) ?_
          exact g_sub [1, 0] rfl (ih_6 _ _ _ h K_7)
    obtain ⟨σ_10, hl_16, h⟩ := bnd_some h
    refine g_sub [1, 0] rfl (L_9 FU (0 : Int32) σ_2 σ_10 hl_16 ?_)
    refine g_aload_n X dX10_sortAll_43 rfl 0 rfl ?_
    refine g_get X (AD := A) cm0 (cE_0 cy A aK σ_10) hin10 rfl 6 (by decide) lk0 (fun _ h9 => h9) rfl dX10_sortAll_44 ?_
    refine g_sO X (i := 0) (by decide) lk3 dX10_sortAll_47 ?_
    obtain ⟨r_18, σ_19, hf_17, h⟩ := bnd2_some h
    refine g_callVI (AD := A) (As := [.ref (aO 0)]) X (ZC_ok _ _ _ _ _) (m_X8_arrange (by decide) hf_17) (cwV 1 X.1.2.2.2.2 gX10_sortAll_X8_arrange rfl rfl rfl (by decide +kernel) ⟨Nat.le_of_ble_eq_true rfl, Nat.le_of_ble_eq_true rfl⟩) rfl cm7 (cE_7 cy A aK σ_10) rfl rfl (Nat.le_of_ble_eq_true rfl) ⟨Nat.zero_le _, Nat.zero_le _⟩ dX10_sortAll_50 ?_
    refine g_pop X dX10_sortAll_53 rfl ?_
    refine g_iconst X dX10_sortAll_54 (v := (0 : Int32)) (by decide) ?_
    refine g_istore_n X dX10_sortAll_55 rfl (by decide) (lv' := [(1, .int (0 : Int32)), (0, .ref (A 0))]) rfl ?_
    refine g_iconst X dX10_sortAll_56 (v := (0 : Int32)) (by decide) ?_
    refine g_istore_n X dX10_sortAll_57 rfl (by decide) (lv' := [(2, .int (0 : Int32)), (1, .int (0 : Int32)), (0, .ref (A 0))]) rfl ?_
    refine g_iconst X dX10_sortAll_58 (v := (0 : Int32)) (by decide) ?_
    refine g_istore_n X dX10_sortAll_59 rfl (by decide) (lv' := [(3, .int (0 : Int32)), (2, .int (0 : Int32)), (1, .int (0 : Int32)), (0, .ref (A 0))]) rfl ?_
    have L_28 : ∀ (n_24 : Nat) (v_20 : Int32) (v_21 : Int32) (v_22 : Int32) (σ_23 : St) (o_30 : Int32) (σ_29 : St), f_X10_sortAll_L60 n_24 v_20 v_21 v_22 σ_23 = some (o_30, σ_29) → gG p l e ({ frames := 4, cells := 0, slots := 0, locals := 119 } : Room) s m args below meth c D (cyT cy) B 4 (eI D (cyT cy) (cW cy A aK X9) B below args s r σ') (cW cy A aK X9 σ_29) 0 0 110 [(1, .int o_30)] [] → gG p l e ({ frames := 4, cells := 0, slots := 0, locals := 119 } : Room) s m args below meth c D (cyT cy) B 4 (eI D (cyT cy) (cW cy A aK X9) B below args s r σ') (cW cy A aK X9 σ_23) 0 0 60 [(0, .ref (A 0)), (1, .int v_20), (2, .int v_21), (3, .int v_22)] [] := by
      intro n_24
      induction n_24 with
      | zero =>
        intro v_20 v_21 v_22 σ_23 o_30 σ_29 h K_26
        rw [f_X10_sortAll_L60] at h
        cases h
      | succ n_24 ih_25 =>
        intro v_20 v_21 v_22 σ_23 o_30 σ_29 h K_26
        rw [f_X10_sortAll_L60] at h
        refine g_iload_n X dX10_sortAll_60 rfl 3 rfl ?_
        refine g_iconst X dX10_sortAll_61 (v := (4 : Int32)) (by decide) ?_
        refine g_icmp_ge X (tgt := 110) dX10_sortAll_62 (by decide) (fun hc_31 => ?_) (fun hc_31 => ?_)
        · have h := ift hc_31 h
          cases h
          exact g_sub [1] rfl K_26
        · have h := iff_ hc_31 h
          refine g_iload_n X dX10_sortAll_65 rfl 1 rfl ?_
          refine g_aload_n X dX10_sortAll_66 rfl 0 rfl ?_
          refine g_get X (AD := A) cm0 (cE_0 cy A aK σ_23) hin10 rfl 6 (by decide) lk0 (fun _ h9 => h9) rfl dX10_sortAll_67 ?_
          refine g_iload_n X dX10_sortAll_70 rfl 2 rfl ?_
          refine g_aload_n X dX10_sortAll_71 rfl 0 rfl ?_
          refine g_get X (AD := A) cm0 (cE_0 cy A aK σ_23) hin10 rfl 1 (by decide) lk1 (fun _ h9 => h9) rfl dX10_sortAll_72 ?_
          refine g_iload_n X dX10_sortAll_75 rfl 3 rfl ?_
          obtain ⟨hg_32, h⟩ := grd_some h
          refine g_aald X (AD := A) cm4 (cE_4 cy A aK σ_23) 3 rfl hg_32 (v := .ref (A (16 + v_22.toNatClampNeg))) rfl dX10_sortAll_76 ?_
          refine g_iconst X dX10_sortAll_77 (v := (0 : Int32)) (by decide) ?_
          refine g_aload_n X dX10_sortAll_78 rfl 0 rfl ?_
          refine g_get X (AD := A) cm0 (cE_0 cy A aK σ_23) hin10 rfl 1 (by decide) lk1 (fun _ h9 => h9) rfl dX10_sortAll_79 ?_
          refine g_iload_n X dX10_sortAll_82 rfl 3 rfl ?_
          obtain ⟨hg_33, h⟩ := grd_some h
          refine g_aald X (AD := A) cm4 (cE_4 cy A aK σ_23) 3 rfl hg_33 (v := .ref (A (16 + v_22.toNatClampNeg))) rfl dX10_sortAll_83 ?_
          refine g_get X (AD := A) ((isRow_r hg_33)).mem (cE_row cy A aK σ_23 (isRow_r hg_33)) hin6 rfl 1 (by decide) lk2 (fun _ h9 => h9) rfl dX10_sortAll_84 ?_
          obtain ⟨r_35, σ_36, hf_34, h⟩ := bnd2_some h
          refine g_callVI (AD := A) (As := [.int v_21, .ref (A (16 + v_22.toNatClampNeg)), .int (0 : Int32), .int (gi σ_23 (8 * (16 + v_22.toNatClampNeg) + 1))]) X (ZC_ok _ _ _ _ _) (m_X8_layBack (isRow_r hg_32) hf_34) (cwV 4 X.1.2.2.2.2 gX10_sortAll_X8_layBack rfl rfl rfl (by decide +kernel) ⟨Nat.le_of_ble_eq_true rfl, Nat.le_of_ble_eq_true rfl⟩) rfl cm7 (cE_7 cy A aK σ_23) rfl rfl (Nat.le_of_ble_eq_true rfl) ⟨Nat.zero_le _, Nat.zero_le _⟩ dX10_sortAll_87 ?_
          refine g_iadd X dX10_sortAll_90 ?_
          refine g_istore_n X dX10_sortAll_91 rfl (by decide) (lv' := [(1, .int (v_20 + r_35)), (0, .ref (A 0)), (2, .int v_21), (3, .int v_22)]) rfl ?_
          refine g_iload_n X dX10_sortAll_92 rfl 2 rfl ?_
          refine g_aload_n X dX10_sortAll_93 rfl 1 rfl ?_
          refine g_get X (AD := A) cm0 (cE_0 cy A aK σ_36) hin10 rfl 1 (by decide) lk1 (fun _ h9 => h9) rfl dX10_sortAll_94 ?_
          refine g_iload_n X dX10_sortAll_97 rfl 3 rfl ?_
          obtain ⟨hg_37, h⟩ := grd_some h
          refine g_aald X (AD := A) cm4 (cE_4 cy A aK σ_36) 3 rfl hg_37 (v := .ref (A (16 + v_22.toNatClampNeg))) rfl dX10_sortAll_98 ?_
          refine g_get X (AD := A) ((isRow_r hg_37)).mem (cE_row cy A aK σ_36 (isRow_r hg_37)) hin6 rfl 1 (by decide) lk2 (fun _ h9 => h9) rfl dX10_sortAll_99 ?_
          refine g_iadd X dX10_sortAll_102 ?_
          refine g_istore_n X dX10_sortAll_103 rfl (by decide) (lv' := [(2, .int (v_21 + (gi σ_36 (8 * (16 + v_22.toNatClampNeg) + 1)))), (1, .int (v_20 + r_35)), (0, .ref (A 0)), (3, .int v_22)]) rfl ?_
          refine g_iinc X dX10_sortAll_104 3 rfl (v := v_22 + (1 : Int32)) rfl (by decide) (lv' := [(3, .int (v_22 + (1 : Int32))), (2, .int (v_21 + (gi σ_36 (8 * (16 + v_22.toNatClampNeg) + 1)))), (1, .int (v_20 + r_35)), (0, .ref (A 0))]) rfl ?_
          refine g_goto X (tgt := 60) dX10_sortAll_107 (by decide) ?_
          exact g_sub [3, 2, 1, 0] rfl (ih_25 _ _ _ _ _ _ h K_26)
    obtain ⟨o_30, σ_29, hl_38, h⟩ := bnd2_some h
    refine g_sub [3, 2, 1, 0] rfl (L_28 FU (0 : Int32) (0 : Int32) (0 : Int32) σ_19 o_30 σ_29 hl_38 ?_)
    refine g_iload_n X dX10_sortAll_110 rfl 0 rfl ?_
    cases h
    exact g_iret (Wf := cW cy A aK X9) X ⟨rfl, rfl⟩ dX10_sortAll_111
  exact K0
set_option maxHeartbeats 8000000 in
set_option maxRecDepth 100000 in
theorem m_X10_needPart {σ : St} {a1 : Nat} {a2 : Int32} {a3 : Int32} {r : String ⊕ Unit} (h1 : isRow a1) (hl : l.stackTraces = false) (h : f_X10_needPart a1 a2 a3 σ = some r) : xV (ZC aK aO aS aV aT) D (cyT cy) l yX10_needPart wsX10_needPart ({ frames := 6, cells := thrC r, slots := thrS r, locals := 130 } : Room) (cW cy A aK X9) [.ref (A a1), .int a2, .int a3] σ r σ (thrC r) (thrS r) := by
  unfold f_X10_needPart at h
  refine xV_of (cc := cX10_needPart) (maxL := 3) (ret := none) (by decide) rfl (Nat.le_of_ble_eq_true rfl) (fun p e s m args below meth c B X hx0 => ?_)
  have hin6 : ∀ w ∈ wsX60, w ∈ wsX10_needPart := by decide +kernel
  have lk0 : Cond.classLink RX10 123 "java/lang/IndexOutOfBoundsException" ∈ wsX10_needPart := by decide +kernel
  have lk1 : Cond.initialized "java/lang/IndexOutOfBoundsException" ∈ wsX10_needPart := by decide +kernel
  have lk2 : ∀ w ∈ (vx_atS RX10 127 "java/lang/IndexOutOfBoundsException" ["java/lang/RuntimeException", "java/lang/Exception"]).filter goodWord, w ∈ wsX10_needPart := by decide +kernel
  have lk3 : Cond.fieldLink RX10 120 "Cardcabinet$Row" "size" "I" ∈ wsX10_needPart := by decide +kernel
  have lk4 : Cond.classLink RX10 171 "java/lang/IllegalArgumentException" ∈ wsX10_needPart := by decide +kernel
  have lk5 : Cond.initialized "java/lang/IllegalArgumentException" ∈ wsX10_needPart := by decide +kernel
  have lk6 : ∀ w ∈ (vx_atS RX10 175 "java/lang/IllegalArgumentException" ["java/lang/RuntimeException", "java/lang/Exception"]).filter goodWord, w ∈ wsX10_needPart := by decide +kernel
  have K0 : gG p l e ({ frames := 6, cells := thrC r, slots := thrS r, locals := 130 } : Room) s m args below meth c D (cyT cy) B 3 (xeV D (cyT cy) (cW cy A aK X9) B below args s r σ (thrC r) (thrS r)) (cW cy A aK X9 σ) 0 0 0 [(0, .ref (A a1)), (1, .int a2), (2, .int a3)] [] := by
    refine g_iload_n X dX10_needPart_0 rfl 1 rfl ?_
    refine g_if_lt X (tgt := 12) dX10_needPart_1 (by decide) (fun hc_1 => ?_) (fun hc_1 => ?_)
    · have h := ift hc_1 h
      cases h
      exact g_thr_IOOBE (AD := A) X hl hx0 (is9 := 254) (tx := "no such part") (by decide) lk0 lk1 lk2 dX10_needPart_12 dX10_needPart_15 dX10_needPart_16 dX10_needPart_18 dX10_needPart_21 (by decide) (Nat.le_of_ble_eq_true rfl) ⟨thrC_t (β := Int32) "", thrS_t (β := Int32) ""⟩ rfl rfl (thrC_t (β := Int32) "") (thrS_t (β := Int32) "")
    · have h := iff_ hc_1 h
      refine g_iload_n X dX10_needPart_4 rfl 2 rfl ?_
      refine g_aload_n X dX10_needPart_5 rfl 0 rfl ?_
      refine g_get X (AD := A) (h1).mem (cE_row cy A aK σ h1) hin6 rfl 1 (by decide) lk3 (fun _ h9 => h9) rfl dX10_needPart_6 ?_
      refine g_icmp_le X (tgt := 22) dX10_needPart_9 (by decide) (fun hc_2 => ?_) (fun hc_2 => ?_)
      · have h := ift hc_2 h
        refine g_iload_n X dX10_needPart_22 rfl 1 rfl ?_
        refine g_iload_n X dX10_needPart_23 rfl 2 rfl ?_
        refine g_icmp_le X (tgt := 38) dX10_needPart_24 (by decide) (fun hc_3 => ?_) (fun hc_3 => ?_)
        · have h := ift hc_3 h
          cases h
          exact g_xret (g_vret (Wf := cW cy A aK X9) X ⟨rfl, rfl⟩ dX10_needPart_38)
        · have h := iff_ hc_3 h
          cases h
          exact g_thrW_IAE (AD := A) X hl hx0 (is9 := 256) (tx := "the part ends ahead of its beginning") (by decide) lk4 lk5 lk6 dX10_needPart_27 dX10_needPart_30 dX10_needPart_31 dX10_needPart_34 dX10_needPart_37 (by decide) (Nat.le_of_ble_eq_true rfl) ⟨thrC_t (β := Int32) "", thrS_t (β := Int32) ""⟩ rfl rfl (thrC_t (β := Int32) "") (thrS_t (β := Int32) "")
      · have h := iff_ hc_2 h
        cases h
        exact g_thr_IOOBE (AD := A) X hl hx0 (is9 := 254) (tx := "no such part") (by decide) lk0 lk1 lk2 dX10_needPart_12 dX10_needPart_15 dX10_needPart_16 dX10_needPart_18 dX10_needPart_21 (by decide) (Nat.le_of_ble_eq_true rfl) ⟨thrC_t (β := Int32) "", thrS_t (β := Int32) ""⟩ rfl rfl (thrC_t (β := Int32) "") (thrS_t (β := Int32) "")
  exact K0
set_option maxHeartbeats 8000000 in
set_option maxRecDepth 100000 in
theorem m_X10_sortPart {σ : St} {a1 : Int32} {a2 : Int32} {a3 : Int32} {r : String ⊕ Int32} {σ' : St} (hl : l.stackTraces = false) (h : f_X10_sortPart a1 a2 a3 σ = some (r, σ')) : xI (ZC aK aO aS aV aT) D (cyT cy) l yX10_sortPart wsX10_sortPart ({ frames := 7, cells := thrC r, slots := thrS r, locals := 152 } : Room) (cW cy A aK X9) [.ref (A 0), .int a1, .int a2, .int a3] σ r σ' (thrC r) (thrS r) := by
  unfold f_X10_sortPart at h
  refine xI_of (cc := cX10_sortPart) (maxL := 5) (ret := (some .int)) (by decide) rfl (Nat.le_of_ble_eq_true rfl) (fun p e s m args below meth c B X hx0 => ?_)
  have lk0 : Cond.fieldLink RX10 139 "Cardcabinet$Order" "BY_FIRST" "LCardcabinet$Order;" ∈ wsX10_sortPart := by decide +kernel
  have K0 : gG p l e ({ frames := 7, cells := thrC r, slots := thrS r, locals := 152 } : Room) s m args below meth c D (cyT cy) B 5 (xeI D (cyT cy) (cW cy A aK X9) B below args s r σ' (thrC r) (thrS r)) (cW cy A aK X9 σ) 0 0 0 [(0, .ref (A 0)), (1, .int a1), (2, .int a2), (3, .int a3)] [] := by
    refine g_aload_n X dX10_sortPart_0 rfl 0 rfl ?_
    refine g_iload_n X dX10_sortPart_1 rfl 1 rfl ?_
    rcases bndX_some h with ⟨E_3, hf_1, h⟩ | ⟨r_2, hf_1, h⟩
    · cases h
      exact g_xVR_thr (AD := A) (As := [.int a1]) X (ZC_ok _ _ _ _ _) hx0 (m_X10_rowAt hl hf_1) (cwV 1 X.1.2.2.2.2 gX10_sortPart_X10_rowAt rfl rfl rfl (by decide +kernel) ⟨Nat.le_of_ble_eq_true rfl, Nat.le_of_ble_eq_true rfl⟩) rfl cm0 (cE_0 cy A aK _) rfl rfl (Nat.le_of_ble_eq_true rfl) ⟨thrC_l (β := Int32) _ "", thrS_l (β := Int32) _ ""⟩ dX10_sortPart_2 rfl rfl (thrC_l (β := Int32) _ "") (thrS_l (β := Int32) _ "")
    refine g_xVR_ret (AD := A) (As := [.int a1]) X (ZC_ok _ _ _ _ _) (m_X10_rowAt hl hf_1) (cwV 1 X.1.2.2.2.2 gX10_sortPart_X10_rowAt rfl rfl rfl (by decide +kernel) ⟨Nat.le_of_ble_eq_true rfl, Nat.le_of_ble_eq_true rfl⟩) rfl cm0 (cE_0 cy A aK σ) rfl rfl (Nat.le_of_ble_eq_true rfl) ⟨thrC_r _ _, thrS_r _ _⟩ dX10_sortPart_2 (k' := 0) (n' := 0) (thrC_r _ _) (thrS_r _ _) ?_
    refine g_astore X dX10_sortPart_5 (by decide) (lv' := [(4, .ref (A r_2)), (0, .ref (A 0)), (1, .int a1), (2, .int a2), (3, .int a3)]) rfl ?_
    refine g_aload X dX10_sortPart_7 0 rfl ?_
    refine g_iload_n X dX10_sortPart_9 rfl 3 rfl ?_
    refine g_iload_n X dX10_sortPart_10 rfl 4 rfl ?_
    rcases bndX_some h with ⟨E_6, hf_4, h⟩ | ⟨r_5, hf_4, h⟩
    · cases h
      exact g_xSV_thr (AD := A) (As := [.ref (A r_2), .int a2, .int a3]) X (ZC_ok _ _ _ _ _) hx0 (m_X10_needPart (f_X10_rowAt_row hf_1) hl hf_4) (va_cwS 3 X.1.2.2.2.2 gX10_sortPart_X10_needPart rfl rfl rfl (by decide +kernel) ⟨Nat.le_of_ble_eq_true rfl, Nat.le_of_ble_eq_true rfl⟩) rfl rfl (Nat.le_of_ble_eq_true rfl) ⟨thrC_l (β := Int32) _ "", thrS_l (β := Int32) _ ""⟩ dX10_sortPart_11 rfl rfl (thrC_l (β := Int32) _ "") (thrS_l (β := Int32) _ "")
    refine g_xSV_ret (AD := A) (As := [.ref (A r_2), .int a2, .int a3]) X (ZC_ok _ _ _ _ _) (m_X10_needPart (f_X10_rowAt_row hf_1) hl hf_4) (va_cwS 3 X.1.2.2.2.2 gX10_sortPart_X10_needPart rfl rfl rfl (by decide +kernel) ⟨Nat.le_of_ble_eq_true rfl, Nat.le_of_ble_eq_true rfl⟩) rfl rfl (Nat.le_of_ble_eq_true rfl) ⟨thrC_r _ _, thrS_r _ _⟩ dX10_sortPart_11 (k' := 0) (n' := 0) (thrC_r _ _) (thrS_r _ _) ?_
    refine g_aload_n X dX10_sortPart_14 rfl 1 rfl ?_
    refine g_aload X dX10_sortPart_15 0 rfl ?_
    refine g_iload_n X dX10_sortPart_17 rfl 3 rfl ?_
    refine g_iload_n X dX10_sortPart_18 rfl 4 rfl ?_
    refine g_sO X (i := 0) (by decide) lk0 dX10_sortPart_19 ?_
    obtain ⟨r_8, σ_9, hf_7, h⟩ := bnd2_some h
    refine g_callVI (AD := A) (As := [.ref (A r_2), .int a2, .int a3, .ref (aO 0)]) X (ZC_ok _ _ _ _ _) (m_X10_arrangePart (f_X10_rowAt_row hf_1) (by decide) hf_7) (cwV 4 X.1.2.2.2.2 gX10_sortPart_X10_arrangePart rfl rfl rfl (by decide +kernel) ⟨Nat.le_of_ble_eq_true rfl, Nat.le_of_ble_eq_true rfl⟩) rfl cm0 (cE_0 cy A aK σ) rfl rfl (Nat.le_of_ble_eq_true rfl) ⟨Nat.zero_le _, Nat.zero_le _⟩ dX10_sortPart_22 ?_
    cases h
    exact g_xret (g_iret (Wf := cW cy A aK X9) X ⟨rfl, rfl⟩ dX10_sortPart_25)
  exact K0
set_option maxHeartbeats 8000000 in
set_option maxRecDepth 100000 in
theorem m_X10_sortDown {σ : St} {a1 : Int32} {a2 : Int32} {a3 : Int32} {r : String ⊕ Int32} {σ' : St} (hl : l.stackTraces = false) (h : f_X10_sortDown a1 a2 a3 σ = some (r, σ')) : xI (ZC aK aO aS aV aT) D (cyT cy) l yX10_sortDown wsX10_sortDown ({ frames := 7, cells := thrC r, slots := thrS r, locals := 152 } : Room) (cW cy A aK X9) [.ref (A 0), .int a1, .int a2, .int a3] σ r σ' (thrC r) (thrS r) := by
  unfold f_X10_sortDown at h
  refine xI_of (cc := cX10_sortDown) (maxL := 5) (ret := (some .int)) (by decide) rfl (Nat.le_of_ble_eq_true rfl) (fun p e s m args below meth c B X hx0 => ?_)
  have lk0 : Cond.fieldLink RX10 176 "Cardcabinet$Order" "DOWN" "LCardcabinet$Order;" ∈ wsX10_sortDown := by decide +kernel
  have lk1 : Cond.classLink RX10 171 "java/lang/IllegalArgumentException" ∈ wsX10_sortDown := by decide +kernel
  have lk2 : Cond.initialized "java/lang/IllegalArgumentException" ∈ wsX10_sortDown := by decide +kernel
  have lk3 : ∀ w ∈ (vx_atS RX10 175 "java/lang/IllegalArgumentException" ["java/lang/RuntimeException", "java/lang/Exception"]).filter goodWord, w ∈ wsX10_sortDown := by decide +kernel
  have K0 : gG p l e ({ frames := 7, cells := thrC r, slots := thrS r, locals := 152 } : Room) s m args below meth c D (cyT cy) B 5 (xeI D (cyT cy) (cW cy A aK X9) B below args s r σ' (thrC r) (thrS r)) (cW cy A aK X9 σ) 0 0 0 [(0, .ref (A 0)), (1, .int a1), (2, .int a2), (3, .int a3)] [] := by
    refine g_aload_n X dX10_sortDown_0 rfl 0 rfl ?_
    refine g_iload_n X dX10_sortDown_1 rfl 1 rfl ?_
    rcases bndX_some h with ⟨E_3, hf_1, h⟩ | ⟨r_2, hf_1, h⟩
    · cases h
      exact g_xVR_thr (AD := A) (As := [.int a1]) X (ZC_ok _ _ _ _ _) hx0 (m_X10_rowAt hl hf_1) (cwV 1 X.1.2.2.2.2 gX10_sortDown_X10_rowAt rfl rfl rfl (by decide +kernel) ⟨Nat.le_of_ble_eq_true rfl, Nat.le_of_ble_eq_true rfl⟩) rfl cm0 (cE_0 cy A aK _) rfl rfl (Nat.le_of_ble_eq_true rfl) ⟨thrC_l (β := Int32) _ "", thrS_l (β := Int32) _ ""⟩ dX10_sortDown_2 rfl rfl (thrC_l (β := Int32) _ "") (thrS_l (β := Int32) _ "")
    refine g_xVR_ret (AD := A) (As := [.int a1]) X (ZC_ok _ _ _ _ _) (m_X10_rowAt hl hf_1) (cwV 1 X.1.2.2.2.2 gX10_sortDown_X10_rowAt rfl rfl rfl (by decide +kernel) ⟨Nat.le_of_ble_eq_true rfl, Nat.le_of_ble_eq_true rfl⟩) rfl cm0 (cE_0 cy A aK σ) rfl rfl (Nat.le_of_ble_eq_true rfl) ⟨thrC_r _ _, thrS_r _ _⟩ dX10_sortDown_2 (k' := 0) (n' := 0) (thrC_r _ _) (thrS_r _ _) ?_
    refine g_astore X dX10_sortDown_5 (by decide) (lv' := [(4, .ref (A r_2)), (0, .ref (A 0)), (1, .int a1), (2, .int a2), (3, .int a3)]) rfl ?_
    refine g_aload X dX10_sortDown_7 0 rfl ?_
    refine g_iload_n X dX10_sortDown_9 rfl 3 rfl ?_
    refine g_iload_n X dX10_sortDown_10 rfl 4 rfl ?_
    rcases bndX_some h with ⟨E_6, hf_4, h⟩ | ⟨r_5, hf_4, h⟩
    · cases h
      exact g_xSV_thr (AD := A) (As := [.ref (A r_2), .int a2, .int a3]) X (ZC_ok _ _ _ _ _) hx0 (m_X10_needPart (f_X10_rowAt_row hf_1) hl hf_4) (va_cwS 3 X.1.2.2.2.2 gX10_sortDown_X10_needPart rfl rfl rfl (by decide +kernel) ⟨Nat.le_of_ble_eq_true rfl, Nat.le_of_ble_eq_true rfl⟩) rfl rfl (Nat.le_of_ble_eq_true rfl) ⟨thrC_l (β := Int32) _ "", thrS_l (β := Int32) _ ""⟩ dX10_sortDown_11 rfl rfl (thrC_l (β := Int32) _ "") (thrS_l (β := Int32) _ "")
    refine g_xSV_ret (AD := A) (As := [.ref (A r_2), .int a2, .int a3]) X (ZC_ok _ _ _ _ _) (m_X10_needPart (f_X10_rowAt_row hf_1) hl hf_4) (va_cwS 3 X.1.2.2.2.2 gX10_sortDown_X10_needPart rfl rfl rfl (by decide +kernel) ⟨Nat.le_of_ble_eq_true rfl, Nat.le_of_ble_eq_true rfl⟩) rfl rfl (Nat.le_of_ble_eq_true rfl) ⟨thrC_r _ _, thrS_r _ _⟩ dX10_sortDown_11 (k' := 0) (n' := 0) (thrC_r _ _) (thrS_r _ _) ?_
    refine g_iload_n X dX10_sortDown_14 rfl 4 rfl ?_
    refine g_iload_n X dX10_sortDown_15 rfl 3 rfl ?_
    refine g_isub X dX10_sortDown_16 ?_
    refine g_bipush X dX10_sortDown_17 (v := (31 : Int32)) (by decide) ?_
    refine g_icmp_le X (tgt := 32) dX10_sortDown_19 (by decide) (fun hc_7 => ?_) (fun hc_7 => ?_)
    · have h := ift hc_7 h
      refine g_aload_n X dX10_sortDown_32 rfl 1 rfl ?_
      refine g_aload X dX10_sortDown_33 0 rfl ?_
      refine g_iload_n X dX10_sortDown_35 rfl 3 rfl ?_
      refine g_iload_n X dX10_sortDown_36 rfl 4 rfl ?_
      refine g_sO X (i := 3) (by decide) lk0 dX10_sortDown_37 ?_
      obtain ⟨r_9, σ_10, hf_8, h⟩ := bnd2_some h
      refine g_callVI (AD := A) (As := [.ref (A r_2), .int a2, .int a3, .ref (aO 3)]) X (ZC_ok _ _ _ _ _) (m_X10_arrangePart (f_X10_rowAt_row hf_1) (by decide) hf_8) (cwV 4 X.1.2.2.2.2 gX10_sortDown_X10_arrangePart rfl rfl rfl (by decide +kernel) ⟨Nat.le_of_ble_eq_true rfl, Nat.le_of_ble_eq_true rfl⟩) rfl cm0 (cE_0 cy A aK σ) rfl rfl (Nat.le_of_ble_eq_true rfl) ⟨Nat.zero_le _, Nat.zero_le _⟩ dX10_sortDown_40 ?_
      cases h
      exact g_xret (g_iret (Wf := cW cy A aK X9) X ⟨rfl, rfl⟩ dX10_sortDown_43)
    · have h := iff_ hc_7 h
      cases h
      exact g_thr_IAE (AD := A) X hl hx0 (is9 := 173) (tx := "the part is too long") (by decide) lk1 lk2 lk3 dX10_sortDown_22 dX10_sortDown_25 dX10_sortDown_26 dX10_sortDown_28 dX10_sortDown_31 (by decide) (Nat.le_of_ble_eq_true rfl) ⟨thrC_t (β := Int32) "", thrS_t (β := Int32) ""⟩ rfl rfl (thrC_t (β := Int32) "") (thrS_t (β := Int32) "")
  exact K0
set_option maxHeartbeats 8000000 in
set_option maxRecDepth 100000 in
theorem m_X10_sortBySecond {σ : St} {a1 : Int32} {r : String ⊕ Int32} {σ' : St} (hl : l.stackTraces = false) (h : f_X10_sortBySecond a1 σ = some (r, σ')) : xI (ZC aK aO aS aV aT) D (cyT cy) l yX10_sortBySecond wsX10_sortBySecond ({ frames := 7, cells := thrC r, slots := thrS r, locals := 165 } : Room) (cW cy A aK X9) [.ref (A 0), .int a1] σ r σ' (thrC r) (thrS r) := by
  unfold f_X10_sortBySecond at h
  refine xI_of (cc := cX10_sortBySecond) (maxL := 2) (ret := (some .int)) (by decide) rfl (Nat.le_of_ble_eq_true rfl) (fun p e s m args below meth c B X hx0 => ?_)
  have lk0 : Cond.fieldLink RX10 179 "Cardcabinet$Order" "BY_SECOND" "LCardcabinet$Order;" ∈ wsX10_sortBySecond := by decide +kernel
  have K0 : gG p l e ({ frames := 7, cells := thrC r, slots := thrS r, locals := 165 } : Room) s m args below meth c D (cyT cy) B 2 (xeI D (cyT cy) (cW cy A aK X9) B below args s r σ' (thrC r) (thrS r)) (cW cy A aK X9 σ) 0 0 0 [(0, .ref (A 0)), (1, .int a1)] [] := by
    refine g_aload_n X dX10_sortBySecond_0 rfl 0 rfl ?_
    refine g_aload_n X dX10_sortBySecond_1 rfl 0 rfl ?_
    refine g_iload_n X dX10_sortBySecond_2 rfl 1 rfl ?_
    rcases bndX_some h with ⟨E_3, hf_1, h⟩ | ⟨r_2, hf_1, h⟩
    · cases h
      exact g_xVR_thr (AD := A) (As := [.int a1]) X (ZC_ok _ _ _ _ _) hx0 (m_X10_rowAt hl hf_1) (cwV 1 X.1.2.2.2.2 gX10_sortBySecond_X10_rowAt rfl rfl rfl (by decide +kernel) ⟨Nat.le_of_ble_eq_true rfl, Nat.le_of_ble_eq_true rfl⟩) rfl cm0 (cE_0 cy A aK _) rfl rfl (Nat.le_of_ble_eq_true rfl) ⟨thrC_l (β := Int32) _ "", thrS_l (β := Int32) _ ""⟩ dX10_sortBySecond_3 rfl rfl (thrC_l (β := Int32) _ "") (thrS_l (β := Int32) _ "")
    refine g_xVR_ret (AD := A) (As := [.int a1]) X (ZC_ok _ _ _ _ _) (m_X10_rowAt hl hf_1) (cwV 1 X.1.2.2.2.2 gX10_sortBySecond_X10_rowAt rfl rfl rfl (by decide +kernel) ⟨Nat.le_of_ble_eq_true rfl, Nat.le_of_ble_eq_true rfl⟩) rfl cm0 (cE_0 cy A aK σ) rfl rfl (Nat.le_of_ble_eq_true rfl) ⟨thrC_r _ _, thrS_r _ _⟩ dX10_sortBySecond_3 (k' := 0) (n' := 0) (thrC_r _ _) (thrS_r _ _) ?_
    refine g_sO X (i := 1) (by decide) lk0 dX10_sortBySecond_6 ?_
    obtain ⟨r_5, σ_6, hf_4, h⟩ := bnd2_some h
    refine g_callVI (AD := A) (As := [.ref (A r_2), .ref (aO 1)]) X (ZC_ok _ _ _ _ _) (m_X10_arrangeRow (f_X10_rowAt_row hf_1) (by decide) hf_4) (cwV 2 X.1.2.2.2.2 gX10_sortBySecond_X10_arrangeRow rfl rfl rfl (by decide +kernel) ⟨Nat.le_of_ble_eq_true rfl, Nat.le_of_ble_eq_true rfl⟩) rfl cm0 (cE_0 cy A aK σ) rfl rfl (Nat.le_of_ble_eq_true rfl) ⟨Nat.zero_le _, Nat.zero_le _⟩ dX10_sortBySecond_9 ?_
    cases h
    exact g_xret (g_iret (Wf := cW cy A aK X9) X ⟨rfl, rfl⟩ dX10_sortBySecond_12)
  exact K0
set_option maxHeartbeats 8000000 in
set_option maxRecDepth 100000 in
theorem m_X10_sortByBoth {σ : St} {a1 : Int32} {r : String ⊕ Int32} {σ' : St} (hl : l.stackTraces = false) (h : f_X10_sortByBoth a1 σ = some (r, σ')) : xI (ZC aK aO aS aV aT) D (cyT cy) l yX10_sortByBoth wsX10_sortByBoth ({ frames := 7, cells := thrC r, slots := thrS r, locals := 165 } : Room) (cW cy A aK X9) [.ref (A 0), .int a1] σ r σ' (thrC r) (thrS r) := by
  unfold f_X10_sortByBoth at h
  refine xI_of (cc := cX10_sortByBoth) (maxL := 2) (ret := (some .int)) (by decide) rfl (Nat.le_of_ble_eq_true rfl) (fun p e s m args below meth c B X hx0 => ?_)
  have lk0 : Cond.fieldLink RX10 182 "Cardcabinet$Order" "BY_BOTH" "LCardcabinet$Order;" ∈ wsX10_sortByBoth := by decide +kernel
  have K0 : gG p l e ({ frames := 7, cells := thrC r, slots := thrS r, locals := 165 } : Room) s m args below meth c D (cyT cy) B 2 (xeI D (cyT cy) (cW cy A aK X9) B below args s r σ' (thrC r) (thrS r)) (cW cy A aK X9 σ) 0 0 0 [(0, .ref (A 0)), (1, .int a1)] [] := by
    refine g_aload_n X dX10_sortByBoth_0 rfl 0 rfl ?_
    refine g_aload_n X dX10_sortByBoth_1 rfl 0 rfl ?_
    refine g_iload_n X dX10_sortByBoth_2 rfl 1 rfl ?_
    rcases bndX_some h with ⟨E_3, hf_1, h⟩ | ⟨r_2, hf_1, h⟩
    · cases h
      exact g_xVR_thr (AD := A) (As := [.int a1]) X (ZC_ok _ _ _ _ _) hx0 (m_X10_rowAt hl hf_1) (cwV 1 X.1.2.2.2.2 gX10_sortByBoth_X10_rowAt rfl rfl rfl (by decide +kernel) ⟨Nat.le_of_ble_eq_true rfl, Nat.le_of_ble_eq_true rfl⟩) rfl cm0 (cE_0 cy A aK _) rfl rfl (Nat.le_of_ble_eq_true rfl) ⟨thrC_l (β := Int32) _ "", thrS_l (β := Int32) _ ""⟩ dX10_sortByBoth_3 rfl rfl (thrC_l (β := Int32) _ "") (thrS_l (β := Int32) _ "")
    refine g_xVR_ret (AD := A) (As := [.int a1]) X (ZC_ok _ _ _ _ _) (m_X10_rowAt hl hf_1) (cwV 1 X.1.2.2.2.2 gX10_sortByBoth_X10_rowAt rfl rfl rfl (by decide +kernel) ⟨Nat.le_of_ble_eq_true rfl, Nat.le_of_ble_eq_true rfl⟩) rfl cm0 (cE_0 cy A aK σ) rfl rfl (Nat.le_of_ble_eq_true rfl) ⟨thrC_r _ _, thrS_r _ _⟩ dX10_sortByBoth_3 (k' := 0) (n' := 0) (thrC_r _ _) (thrS_r _ _) ?_
    refine g_sO X (i := 2) (by decide) lk0 dX10_sortByBoth_6 ?_
    obtain ⟨r_5, σ_6, hf_4, h⟩ := bnd2_some h
    refine g_callVI (AD := A) (As := [.ref (A r_2), .ref (aO 2)]) X (ZC_ok _ _ _ _ _) (m_X10_arrangeRow (f_X10_rowAt_row hf_1) (by decide) hf_4) (cwV 2 X.1.2.2.2.2 gX10_sortByBoth_X10_arrangeRow rfl rfl rfl (by decide +kernel) ⟨Nat.le_of_ble_eq_true rfl, Nat.le_of_ble_eq_true rfl⟩) rfl cm0 (cE_0 cy A aK σ) rfl rfl (Nat.le_of_ble_eq_true rfl) ⟨Nat.zero_le _, Nat.zero_le _⟩ dX10_sortByBoth_9 ?_
    cases h
    exact g_xret (g_iret (Wf := cW cy A aK X9) X ⟨rfl, rfl⟩ dX10_sortByBoth_12)
  exact K0
set_option maxHeartbeats 8000000 in
set_option maxRecDepth 100000 in
theorem m_X10_needUnlikeRows {σ : St} {a1 : Int32} {a2 : Int32} {r : String ⊕ Unit} (hl : l.stackTraces = false) (h : f_X10_needUnlikeRows a1 a2 = some r) : xV (ZC aK aO aS aV aT) D (cyT cy) l yX10_needUnlikeRows wsX10_needUnlikeRows ({ frames := 6, cells := thrC r, slots := thrS r, locals := 130 } : Room) (cW cy A aK X9) [.int a1, .int a2] σ r σ (thrC r) (thrS r) := by
  unfold f_X10_needUnlikeRows at h
  refine xV_of (cc := cX10_needUnlikeRows) (maxL := 2) (ret := none) (by decide) rfl (Nat.le_of_ble_eq_true rfl) (fun p e s m args below meth c B X hx0 => ?_)
  have lk0 : Cond.classLink RX10 171 "java/lang/IllegalArgumentException" ∈ wsX10_needUnlikeRows := by decide +kernel
  have lk1 : Cond.initialized "java/lang/IllegalArgumentException" ∈ wsX10_needUnlikeRows := by decide +kernel
  have lk2 : ∀ w ∈ (vx_atS RX10 175 "java/lang/IllegalArgumentException" ["java/lang/RuntimeException", "java/lang/Exception"]).filter goodWord, w ∈ wsX10_needUnlikeRows := by decide +kernel
  have K0 : gG p l e ({ frames := 6, cells := thrC r, slots := thrS r, locals := 130 } : Room) s m args below meth c D (cyT cy) B 2 (xeV D (cyT cy) (cW cy A aK X9) B below args s r σ (thrC r) (thrS r)) (cW cy A aK X9 σ) 0 0 0 [(0, .int a1), (1, .int a2)] [] := by
    refine g_iload_n X dX10_needUnlikeRows_0 rfl 0 rfl ?_
    refine g_iload_n X dX10_needUnlikeRows_1 rfl 1 rfl ?_
    refine g_icmp_ne X (tgt := 16) dX10_needUnlikeRows_2 (by decide) (fun hc_1 => ?_) (fun hc_1 => ?_)
    · have h := iff_ hc_1 h
      cases h
      exact g_xret (g_vret (Wf := cW cy A aK X9) X ⟨rfl, rfl⟩ dX10_needUnlikeRows_16)
    · have h := ift hc_1 h
      cases h
      exact g_thrW_IAE (AD := A) X hl hx0 (is9 := 258) (tx := "both rows are the same") (by decide) lk0 lk1 lk2 dX10_needUnlikeRows_5 dX10_needUnlikeRows_8 dX10_needUnlikeRows_9 dX10_needUnlikeRows_12 dX10_needUnlikeRows_15 (by decide) (Nat.le_of_ble_eq_true rfl) ⟨thrC_t (β := Int32) "", thrS_t (β := Int32) ""⟩ rfl rfl (thrC_t (β := Int32) "") (thrS_t (β := Int32) "")
  exact K0
set_option maxHeartbeats 8000000 in
set_option maxRecDepth 100000 in
theorem m_X10_pour {σ : St} {a1 : Int32} {a2 : Int32} {r : String ⊕ Int32} {σ' : St} (hl : l.stackTraces = false) (h : f_X10_pour a1 a2 σ = some (r, σ')) : xI (ZC aK aO aS aV aT) D (cyT cy) l yX10_pour wsX10_pour ({ frames := 7, cells := thrC r, slots := thrS r, locals := 151 } : Room) (cW cy A aK X9) [.ref (A 0), .int a1, .int a2] σ r σ' (thrC r) (thrS r) := by
  unfold f_X10_pour at h
  refine xI_of (cc := cX10_pour) (maxL := 6) (ret := (some .int)) (by decide) rfl (Nat.le_of_ble_eq_true rfl) (fun p e s m args below meth c B X hx0 => ?_)
  have hin6 : ∀ w ∈ wsX60, w ∈ wsX10_pour := by decide +kernel
  have lk0 : Cond.fieldLink RX10 120 "Cardcabinet$Row" "size" "I" ∈ wsX10_pour := by decide +kernel
  have lk1 : Cond.fieldLink RX10 188 "Cardcabinet$Row" "marks" "[I" ∈ wsX10_pour := by decide +kernel
  have K0 : gG p l e ({ frames := 7, cells := thrC r, slots := thrS r, locals := 151 } : Room) s m args below meth c D (cyT cy) B 6 (xeI D (cyT cy) (cW cy A aK X9) B below args s r σ' (thrC r) (thrS r)) (cW cy A aK X9 σ) 0 0 0 [(0, .ref (A 0)), (1, .int a1), (2, .int a2)] [] := by
    refine g_aload_n X dX10_pour_0 rfl 0 rfl ?_
    refine g_iload_n X dX10_pour_1 rfl 1 rfl ?_
    rcases bndX_some h with ⟨E_3, hf_1, h⟩ | ⟨r_2, hf_1, h⟩
    · cases h
      exact g_xVR_thr (AD := A) (As := [.int a1]) X (ZC_ok _ _ _ _ _) hx0 (m_X10_rowAt hl hf_1) (cwV 1 X.1.2.2.2.2 gX10_pour_X10_rowAt rfl rfl rfl (by decide +kernel) ⟨Nat.le_of_ble_eq_true rfl, Nat.le_of_ble_eq_true rfl⟩) rfl cm0 (cE_0 cy A aK _) rfl rfl (Nat.le_of_ble_eq_true rfl) ⟨thrC_l (β := Int32) _ "", thrS_l (β := Int32) _ ""⟩ dX10_pour_2 rfl rfl (thrC_l (β := Int32) _ "") (thrS_l (β := Int32) _ "")
    refine g_xVR_ret (AD := A) (As := [.int a1]) X (ZC_ok _ _ _ _ _) (m_X10_rowAt hl hf_1) (cwV 1 X.1.2.2.2.2 gX10_pour_X10_rowAt rfl rfl rfl (by decide +kernel) ⟨Nat.le_of_ble_eq_true rfl, Nat.le_of_ble_eq_true rfl⟩) rfl cm0 (cE_0 cy A aK σ) rfl rfl (Nat.le_of_ble_eq_true rfl) ⟨thrC_r _ _, thrS_r _ _⟩ dX10_pour_2 (k' := 0) (n' := 0) (thrC_r _ _) (thrS_r _ _) ?_
    refine g_astore_n X dX10_pour_5 rfl (by decide) (lv' := [(3, .ref (A r_2)), (0, .ref (A 0)), (1, .int a1), (2, .int a2)]) rfl ?_
    refine g_aload_n X dX10_pour_6 rfl 1 rfl ?_
    refine g_iload_n X dX10_pour_7 rfl 3 rfl ?_
    rcases bndX_some h with ⟨E_6, hf_4, h⟩ | ⟨r_5, hf_4, h⟩
    · cases h
      exact g_xVR_thr (AD := A) (As := [.int a2]) X (ZC_ok _ _ _ _ _) hx0 (m_X10_rowAt hl hf_4) (cwV 1 X.1.2.2.2.2 gX10_pour_X10_rowAt rfl rfl rfl (by decide +kernel) ⟨Nat.le_of_ble_eq_true rfl, Nat.le_of_ble_eq_true rfl⟩) rfl cm0 (cE_0 cy A aK _) rfl rfl (Nat.le_of_ble_eq_true rfl) ⟨thrC_l (β := Int32) _ "", thrS_l (β := Int32) _ ""⟩ dX10_pour_8 rfl rfl (thrC_l (β := Int32) _ "") (thrS_l (β := Int32) _ "")
    refine g_xVR_ret (AD := A) (As := [.int a2]) X (ZC_ok _ _ _ _ _) (m_X10_rowAt hl hf_4) (cwV 1 X.1.2.2.2.2 gX10_pour_X10_rowAt rfl rfl rfl (by decide +kernel) ⟨Nat.le_of_ble_eq_true rfl, Nat.le_of_ble_eq_true rfl⟩) rfl cm0 (cE_0 cy A aK σ) rfl rfl (Nat.le_of_ble_eq_true rfl) ⟨thrC_r _ _, thrS_r _ _⟩ dX10_pour_8 (k' := 0) (n' := 0) (thrC_r _ _) (thrS_r _ _) ?_
    refine g_astore X dX10_pour_11 (by decide) (lv' := [(4, .ref (A r_5)), (3, .ref (A r_2)), (0, .ref (A 0)), (1, .int a1), (2, .int a2)]) rfl ?_
    refine g_iload_n X dX10_pour_13 rfl 3 rfl ?_
    refine g_iload_n X dX10_pour_14 rfl 4 rfl ?_
    rcases bndX_some h with ⟨E_9, hf_7, h⟩ | ⟨r_8, hf_7, h⟩
    · cases h
      exact g_xSV_thr (AD := A) (As := [.int a1, .int a2]) X (ZC_ok _ _ _ _ _) hx0 (m_X10_needUnlikeRows hl hf_7) (va_cwS 2 X.1.2.2.2.2 gX10_pour_X10_needUnlikeRows rfl rfl rfl (by decide +kernel) ⟨Nat.le_of_ble_eq_true rfl, Nat.le_of_ble_eq_true rfl⟩) rfl rfl (Nat.le_of_ble_eq_true rfl) ⟨thrC_l (β := Int32) _ "", thrS_l (β := Int32) _ ""⟩ dX10_pour_15 rfl rfl (thrC_l (β := Int32) _ "") (thrS_l (β := Int32) _ "")
    refine g_xSV_ret (AD := A) (As := [.int a1, .int a2]) X (ZC_ok _ _ _ _ _) (m_X10_needUnlikeRows hl hf_7) (va_cwS 2 X.1.2.2.2.2 gX10_pour_X10_needUnlikeRows rfl rfl rfl (by decide +kernel) ⟨Nat.le_of_ble_eq_true rfl, Nat.le_of_ble_eq_true rfl⟩) rfl rfl (Nat.le_of_ble_eq_true rfl) ⟨thrC_r _ _, thrS_r _ _⟩ dX10_pour_15 (k' := 0) (n' := 0) (thrC_r _ _) (thrS_r _ _) ?_
    refine g_aload X dX10_pour_18 0 rfl ?_
    refine g_aload_n X dX10_pour_20 rfl 1 rfl ?_
    refine g_get X (AD := A) ((f_X10_rowAt_row hf_1)).mem (cE_row cy A aK σ (f_X10_rowAt_row hf_1)) hin6 rfl 1 (by decide) lk0 (fun _ h9 => h9) rfl dX10_pour_21 ?_
    rcases bndX_some h with ⟨E_12, hf_10, h⟩ | ⟨r_11, hf_10, h⟩
    · cases h
      exact g_xSV_thr (AD := A) (As := [.ref (A r_5), .int (gi σ (8 * r_2 + 1))]) X (ZC_ok _ _ _ _ _) hx0 (m_X10_needRoom (f_X10_rowAt_row hf_4) hl hf_10) (va_cwS 2 X.1.2.2.2.2 gX10_pour_X10_needRoom rfl rfl rfl (by decide +kernel) ⟨Nat.le_of_ble_eq_true rfl, Nat.le_of_ble_eq_true rfl⟩) rfl rfl (Nat.le_of_ble_eq_true rfl) ⟨thrC_l (β := Int32) _ "", thrS_l (β := Int32) _ ""⟩ dX10_pour_24 rfl rfl (thrC_l (β := Int32) _ "") (thrS_l (β := Int32) _ "")
    refine g_xSV_ret (AD := A) (As := [.ref (A r_5), .int (gi σ (8 * r_2 + 1))]) X (ZC_ok _ _ _ _ _) (m_X10_needRoom (f_X10_rowAt_row hf_4) hl hf_10) (va_cwS 2 X.1.2.2.2.2 gX10_pour_X10_needRoom rfl rfl rfl (by decide +kernel) ⟨Nat.le_of_ble_eq_true rfl, Nat.le_of_ble_eq_true rfl⟩) rfl rfl (Nat.le_of_ble_eq_true rfl) ⟨thrC_r _ _, thrS_r _ _⟩ dX10_pour_24 (k' := 0) (n' := 0) (thrC_r _ _) (thrS_r _ _) ?_
    refine g_iconst X dX10_pour_27 (v := (0 : Int32)) (by decide) ?_
    refine g_istore X dX10_pour_28 (by decide) (lv' := [(5, .int (0 : Int32)), (4, .ref (A r_5)), (3, .ref (A r_2)), (0, .ref (A 0)), (1, .int a1), (2, .int a2)]) rfl ?_
    have L_23 : ∀ (c_13 : Nat) (hp_14 : isRow c_13) (c_15 : Nat) (hp_16 : isRow c_15) (n_19 : Nat) (v_17 : Int32) (σ_18 : St) (σ_24 : St), f_X10_pour_L30 c_13 c_15 n_19 v_17 σ_18 = some (σ_24) → gG p l e ({ frames := 7, cells := thrC r, slots := thrS r, locals := 151 } : Room) s m args below meth c D (cyT cy) B 6 (xeI D (cyT cy) (cW cy A aK X9) B below args s r σ' (thrC r) (thrS r)) (cW cy A aK X9 σ_24) 0 0 57 [(3, .ref (A c_13)), (4, .ref (A c_15))] [] → gG p l e ({ frames := 7, cells := thrC r, slots := thrS r, locals := 151 } : Room) s m args below meth c D (cyT cy) B 6 (xeI D (cyT cy) (cW cy A aK X9) B below args s r σ' (thrC r) (thrS r)) (cW cy A aK X9 σ_18) 0 0 30 [(3, .ref (A c_13)), (4, .ref (A c_15)), (5, .int v_17)] [] := by
      intro c_13 hp_14 c_15 hp_16 n_19
      induction n_19 with
      | zero =>
        intro v_17 σ_18 σ_24 h K_21
        rw [f_X10_pour_L30] at h
        cases h
      | succ n_19 ih_20 =>
        intro v_17 σ_18 σ_24 h K_21
        rw [f_X10_pour_L30] at h
        refine g_iload X dX10_pour_30 2 rfl ?_
        refine g_aload_n X dX10_pour_32 rfl 0 rfl ?_
        refine g_get X (AD := A) (hp_14).mem (cE_row cy A aK σ_18 hp_14) hin6 rfl 1 (by decide) lk0 (fun _ h9 => h9) rfl dX10_pour_33 ?_
        refine g_icmp_ge X (tgt := 57) dX10_pour_36 (by decide) (fun hc_25 => ?_) (fun hc_25 => ?_)
        · have h := ift hc_25 h
          cases h
          exact g_sub [0, 1] rfl K_21
        · have h := iff_ hc_25 h
          refine g_aload X dX10_pour_39 1 rfl ?_
          refine g_aload_n X dX10_pour_41 rfl 0 rfl ?_
          refine g_get X (AD := A) (hp_14).mem (cE_row cy A aK σ_18 hp_14) hin6 rfl 0 (by decide) lk1 (fun _ h9 => h9) rfl dX10_pour_42 ?_
          refine g_iload X dX10_pour_45 2 rfl ?_
          obtain ⟨hg_26, h⟩ := grd_some h
          refine g_iald X (AD := A) ((isRow.mk hp_14)).mem (cE_mk cy A aK σ_18 (isRow.mk hp_14)) 0 rfl hg_26 dX10_pour_47 ?_
          obtain ⟨σ_28, hf_27, h⟩ := bnd_some h
          refine g_callVV (AD := A) (As := [.int (gr σ_18 (c_13 + 16) v_17.toNatClampNeg)]) X (ZC_ok _ _ _ _ _) (m_X6_append hp_16 hf_27) (cwV 1 X.1.2.2.2.2 gX10_pour_X6_append rfl rfl rfl (by decide +kernel) ⟨Nat.le_of_ble_eq_true rfl, Nat.le_of_ble_eq_true rfl⟩) rfl (hp_16).mem (cE_row cy A aK σ_18 hp_16) rfl rfl (Nat.le_of_ble_eq_true rfl) ⟨Nat.zero_le _, Nat.zero_le _⟩ dX10_pour_48 ?_
          refine g_iinc X dX10_pour_51 2 rfl (v := v_17 + (1 : Int32)) rfl (by decide) (lv' := [(5, .int (v_17 + (1 : Int32))), (3, .ref (A c_13)), (4, .ref (A c_15))]) rfl ?_
          refine g_goto X (tgt := 30) dX10_pour_54 (by decide) ?_
          exact g_sub [1, 2, 0] rfl (ih_20 _ _ _ h K_21)
    obtain ⟨σ_24, hl_29, h⟩ := bnd_some h
    refine g_sub [2, 1, 0] rfl (L_23 r_2 (f_X10_rowAt_row hf_1) r_5 (f_X10_rowAt_row hf_4) FU (0 : Int32) σ σ_24 hl_29 ?_)
    refine g_aload_n X dX10_pour_57 rfl 0 rfl ?_
    refine g_iconst X dX10_pour_58 (v := (0 : Int32)) (by decide) ?_
    refine g_put X (AD := A) (ty := .int) (v := .int (0 : Int32)) (σ' := si σ_24 (8 * r_2 + 1) (0 : Int32)) ((f_X10_rowAt_row hf_1)).mem (cE_row cy A aK σ_24 (f_X10_rowAt_row hf_1)) hin6 rfl tyX6 tyX6_ok nmX6 1 (by decide) lk0 (fun _ h9 => h9) rfl (by decide +kernel) rfl rfl (Nat.le_of_ble_eq_true rfl) (sf_row cy A aK σ_24 (0 : Int32) (f_X10_rowAt_row hf_1)) dX10_pour_59 ?_
    refine g_aload X dX10_pour_62 1 rfl ?_
    refine g_get X (AD := A) ((f_X10_rowAt_row hf_4)).mem (cE_row cy A aK (si σ_24 (8 * r_2 + 1) (0 : Int32)) (f_X10_rowAt_row hf_4)) hin6 rfl 1 (by decide) lk0 (fun _ h9 => h9) rfl dX10_pour_64 ?_
    cases h
    exact g_xret (g_iret (Wf := cW cy A aK X9) X ⟨rfl, rfl⟩ dX10_pour_67)
  exact K0
end MV
