section MV
variable {D : va_G} {cy : Nat → ClassId} {A aK aO aS aV aT : Nat → Nat} {l : Launch} {X9 : va_W}
set_option maxHeartbeats 8000000 in
set_option maxRecDepth 100000 in
theorem m_X10_errors {σ : St} {r : Int32} {σ' : St} (h : f_X10_errors σ = some (r, σ')) : mI (ZC aK aO aS aV aT) D (cyT cy) l yX10_errors wsX10_errors ({ frames := 6, cells := 0, slots := 0, locals := 165 } : Room) (cW cy A aK X9) [.ref (A 0)] σ r σ' := by
  unfold f_X10_errors at h
  refine mI_of (cc := cX10_errors) (maxL := 3) (ret := (some .int)) (by decide) rfl (Nat.le_of_ble_eq_true rfl) (fun p e s m args below meth c B X => ?_)
  have hin10 : ∀ w ∈ wsX100, w ∈ wsX10_errors := by decide +kernel
  have lk0 : Cond.fieldLink RX10 18 "Cardcabinet" "rows" "[LCardcabinet$Row;" ∈ wsX10_errors := by decide +kernel
  have K0 : gG p l e ({ frames := 6, cells := 0, slots := 0, locals := 165 } : Room) s m args below meth c D (cyT cy) B 3 (eI D (cyT cy) (cW cy A aK X9) B below args s r σ') (cW cy A aK X9 σ) 0 0 0 [(0, .ref (A 0))] [] := by
    refine g_iconst X dX10_errors_0 (v := (0 : Int32)) (by decide) ?_
    refine g_istore_n X dX10_errors_1 rfl (by decide) (lv' := [(1, .int (0 : Int32)), (0, .ref (A 0))]) rfl ?_
    refine g_iconst X dX10_errors_2 (v := (0 : Int32)) (by decide) ?_
    refine g_istore_n X dX10_errors_3 rfl (by decide) (lv' := [(2, .int (0 : Int32)), (1, .int (0 : Int32)), (0, .ref (A 0))]) rfl ?_
    have L_8 : ∀ (n_4 : Nat) (v_1 : Int32) (v_2 : Int32) (σ_3 : St) (o_10 : Int32) (σ_9 : St), f_X10_errors_L4 n_4 v_1 v_2 σ_3 = some (o_10, σ_9) → gG p l e ({ frames := 6, cells := 0, slots := 0, locals := 165 } : Room) s m args below meth c D (cyT cy) B 3 (eI D (cyT cy) (cW cy A aK X9) B below args s r σ') (cW cy A aK X9 σ_9) 0 0 31 [(1, .int o_10)] [] → gG p l e ({ frames := 6, cells := 0, slots := 0, locals := 165 } : Room) s m args below meth c D (cyT cy) B 3 (eI D (cyT cy) (cW cy A aK X9) B below args s r σ') (cW cy A aK X9 σ_3) 0 0 4 [(0, .ref (A 0)), (1, .int v_1), (2, .int v_2)] [] := by
      intro n_4
      induction n_4 with
      | zero =>
        intro v_1 v_2 σ_3 o_10 σ_9 h K_6
        rw [f_X10_errors_L4] at h
        cases h
      | succ n_4 ih_5 =>
        intro v_1 v_2 σ_3 o_10 σ_9 h K_6
        rw [f_X10_errors_L4] at h
        refine g_iload_n X dX10_errors_4 rfl 2 rfl ?_
        refine g_iconst X dX10_errors_5 (v := (4 : Int32)) (by decide) ?_
        refine g_icmp_ge X (tgt := 31) dX10_errors_6 (by decide) (fun hc_11 => ?_) (fun hc_11 => ?_)
        · have h := ift hc_11 h
          cases h
          exact g_sub [1] rfl K_6
        · have h := iff_ hc_11 h
          refine g_aload_n X dX10_errors_9 rfl 0 rfl ?_
          refine g_aload_n X dX10_errors_10 rfl 0 rfl ?_
          refine g_get X (AD := A) cm0 (cE_0 cy A aK σ_3) hin10 rfl 1 (by decide) lk0 (fun _ h9 => h9) rfl dX10_errors_11 ?_
          refine g_iload_n X dX10_errors_14 rfl 2 rfl ?_
          obtain ⟨hg_12, h⟩ := grd_some h
          refine g_aald X (AD := A) cm4 (cE_4 cy A aK σ_3) 3 rfl hg_12 (v := .ref (A (16 + v_2.toNatClampNeg))) rfl dX10_errors_15 ?_
          obtain ⟨r_14, σ_15, hf_13, h⟩ := bnd2_some h
          refine g_callVI (AD := A) (As := [.ref (A (16 + v_2.toNatClampNeg))]) X (ZC_ok _ _ _ _ _) (m_X10_theoremHolds (isRow_r hg_12) hf_13) (cwV 1 X.1.2.2.2.2 gX10_errors_X10_theoremHolds rfl rfl rfl (by decide +kernel) ⟨Nat.le_of_ble_eq_true rfl, Nat.le_of_ble_eq_true rfl⟩) rfl cm0 (cE_0 cy A aK σ_3) rfl rfl (Nat.le_of_ble_eq_true rfl) ⟨Nat.zero_le _, Nat.zero_le _⟩ dX10_errors_16 ?_
          obtain ⟨v_17, hj_19, h⟩ := bnd_some h
          have K_18 : gG p l e ({ frames := 6, cells := 0, slots := 0, locals := 165 } : Room) s m args below meth c D (cyT cy) B 3 (eI D (cyT cy) (cW cy A aK X9) B below args s r σ') (cW cy A aK X9 σ_15) 0 0 25 [(0, .ref (A 0)), (1, .int v_17), (2, .int v_2)] [] := by
            refine g_iinc X dX10_errors_25 2 rfl (v := v_2 + (1 : Int32)) rfl (by decide) (lv' := [(2, .int (v_2 + (1 : Int32))), (0, .ref (A 0)), (1, .int v_17)]) rfl ?_
            refine g_goto X (tgt := 4) dX10_errors_28 (by decide) ?_
            exact g_sub [1, 2, 0] rfl (ih_5 _ _ _ _ _ h K_6)
          have h := hj_19
          clear hj_19
          refine g_if_ne X (tgt := 25) dX10_errors_19 (by decide) (fun hc_16 => ?_) (fun hc_16 => ?_)
          · have h := iff_ hc_16 h
            cases h
            exact g_sub [0, 1, 2] rfl K_18
          · have h := ift hc_16 h
            refine g_iinc X dX10_errors_22 1 rfl (v := v_1 + (1 : Int32)) rfl (by decide) (lv' := [(1, .int (v_1 + (1 : Int32))), (0, .ref (A 0)), (2, .int v_2)]) rfl ?_
            cases h
            exact g_sub [1, 0, 2] rfl K_18
    obtain ⟨o_10, σ_9, hl_20, h⟩ := bnd2_some h
    refine g_sub [2, 1, 0] rfl (L_8 FU (0 : Int32) (0 : Int32) σ o_10 σ_9 hl_20 ?_)
    refine g_iload_n X dX10_errors_31 rfl 0 rfl ?_
    cases h
    exact g_iret (Wf := cW cy A aK X9) X ⟨rfl, rfl⟩ dX10_errors_32
  exact K0
end MV
