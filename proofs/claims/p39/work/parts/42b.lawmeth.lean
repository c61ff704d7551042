section LV
variable {D : va_G} {cy : Nat → ClassId} {A aK aO aS aV aT bS bV dA B : Nat → Nat} {l : Launch} {X8 : va_W}
set_option maxHeartbeats 16000000 in
set_option maxRecDepth 100000 in
theorem m_L_copies {σ ρ : St} {a0 : Nat} {a1 : Int32} {a2 : Nat} {a3 : Int32} {ρ' : St} (h0 : a0 < 3) (h2 : a2 < 3) (h : f_L_copies a0 a1 a2 a3 ρ = some ρ') : wV (ZL aK aO aS aV aT bS bV dA) D (cyT cy) l yL_copies wsL_copies rmL_copies (lWf cy A aK B X8) [.ref (B (1 + a0)), .int a1, .ref (B (1 + a2)), .int a3] (σ, ρ) (σ, ρ') 0 0 := by
  unfold f_L_copies at h
  refine wV_of (cc := cL_copies) (maxL := 5) (ret := none) (by decide) rfl (Nat.le_of_ble_eq_true rfl) (fun p e s m args below meth c B9 X => ?_)
  have K0 : gG p l e rmL_copies s m args below meth c D (cyT cy) B9 5 (lVe (lWf cy A aK B X8) D (cyT cy) B9 below args s (σ, ρ') 0 0) (lW cy A aK B X8 σ ρ) 0 0 0 [(0, .ref (B (1 + a0))), (1, .int a1), (2, .ref (B (1 + a2))), (3, .int a3)] [] := by
    refine g_iconst X dL_copies_0 (v := (0 : Int32)) (by decide) ?_
    refine g_istore X dL_copies_1 (by decide) (lv' := [(4, .int (0 : Int32)), (0, .ref (B (1 + a0))), (1, .int a1), (2, .ref (B (1 + a2))), (3, .int a3)]) rfl ?_
    have L_13 : ∀ (c_1 : Nat) (hp_2 : c_1 < 3) (c_3 : Int32) (c_4 : Nat) (hp_5 : c_4 < 3) (c_6 : Int32) (σ_15 : St) (hz_16 : σ_15 = σ) (n_9 : Nat) (v_7 : Int32) (ρ_8 : St) (ρ_14 : St), f_L_copies_L3 c_1 c_3 c_4 c_6 n_9 v_7 ρ_8 = some (ρ_14) → gG p l e rmL_copies s m args below meth c D (cyT cy) B9 5 (lVe (lWf cy A aK B X8) D (cyT cy) B9 below args s (σ, ρ') 0 0) (lW cy A aK B X8 σ_15 ρ_14) 0 0 27 [] [] → gG p l e rmL_copies s m args below meth c D (cyT cy) B9 5 (lVe (lWf cy A aK B X8) D (cyT cy) B9 below args s (σ, ρ') 0 0) (lW cy A aK B X8 σ_15 ρ_8) 0 0 3 [(0, .ref (B (1 + c_1))), (1, .int c_3), (2, .ref (B (1 + c_4))), (3, .int c_6), (4, .int v_7)] [] := by
      intro c_1 hp_2 c_3 c_4 hp_5 c_6 σ_15 hz_16 n_9
      induction n_9 with
      | zero =>
        intro v_7 ρ_8 ρ_14 h K_11
        rw [f_L_copies_L3] at h
        cases h
      | succ n_9 ih_10 =>
        intro v_7 ρ_8 ρ_14 h K_11
        rw [f_L_copies_L3] at h
        refine g_iload X dL_copies_3 4 rfl ?_
        refine g_iconst X dL_copies_5 (v := (3 : Int32)) (by decide) ?_
        refine g_icmp_ge X (tgt := 27) dL_copies_6 (by decide) (fun hc_17 => ?_) (fun hc_17 => ?_)
        · have h := ift hc_17 h
          cases h
          exact g_sub [] rfl K_11
        · have h := iff_ hc_17 h
          refine g_aload_n X dL_copies_9 rfl 2 rfl ?_
          refine g_iload X dL_copies_10 4 rfl ?_
          obtain ⟨hg_18, h⟩ := grd_some h
          refine h_aald X hp_5 (k9 := v_7.toNatClampNeg) (inR0 hg_18) rfl (inR hg_18) dL_copies_12 ?_
          refine g_iload_n X dL_copies_13 rfl 3 rfl ?_
          refine g_aload_n X dL_copies_14 rfl 0 rfl ?_
          refine g_iload X dL_copies_15 4 rfl ?_
          obtain ⟨hg_19, h⟩ := grd_some h
          refine h_aald X hp_2 (k9 := v_7.toNatClampNeg) (inR0 hg_19) rfl (inR hg_19) dL_copies_17 ?_
          refine g_iload_n X dL_copies_18 rfl 1 rfl ?_
          obtain ⟨hg_20, h⟩ := grd_some h
          refine h_gld X (isGr.mk hp_2 (inR hg_19)) (k9 := c_3.toNatClampNeg) hg_20 rfl dL_copies_19 ?_
          obtain ⟨hg_21, h⟩ := grd_some h
          refine h_gst X (isGr.mk hp_5 (inR hg_18)) (k9 := c_6.toNatClampNeg) hg_21 rfl dL_copies_20 ?_
          obtain ⟨ρ_22, e_23, h⟩ := bnd_some h
          have e_23 := Option.some.inj e_23
          rw [e_23]
          refine g_iinc X dL_copies_21 4 rfl (v := v_7 + (1 : Int32)) rfl (by decide) (lv' := [(4, .int (v_7 + (1 : Int32))), (0, .ref (B (1 + c_1))), (1, .int c_3), (2, .ref (B (1 + c_4))), (3, .int c_6)]) rfl ?_
          refine g_goto X (tgt := 3) dL_copies_24 (by decide) ?_
          exact g_sub [1, 2, 3, 4, 0] rfl (ih_10 _ _ _ h K_11)
    obtain ⟨ρ_14, hl_24, h⟩ := bnd_some h
    refine g_sub [1, 2, 3, 4, 0] rfl (L_13 a0 h0 a1 a2 h2 a3 σ rfl FU (0 : Int32) ρ ρ_14 hl_24 ?_)
    cases h
    exact g_vret (Wf := (lWf cy A aK B X8)) (u := (_, _)) X rfl dL_copies_27
  exact K0
set_option maxHeartbeats 16000000 in
set_option maxRecDepth 100000 in
theorem m_L_isLike {σ ρ : St} {a0 : Nat} {a1 : Nat} {a2 : Int32} {r : Int32} (h0 : a0 < 3) (h1 : a1 < 3) (h : f_L_isLike a0 a1 a2 ρ = some r) : wI (ZL aK aO aS aV aT bS bV dA) D (cyT cy) l yL_isLike wsL_isLike rmL_isLike (lWf cy A aK B X8) [.ref (B (1 + a0)), .ref (B (1 + a1)), .int a2] (σ, ρ) r (σ, ρ) 0 0 := by
  unfold f_L_isLike at h
  refine wI_of (cc := cL_isLike) (maxL := 5) (ret := (some .boolean)) (by decide) rfl (Nat.le_of_ble_eq_true rfl) (fun p e s m args below meth c B9 X => ?_)
  have K0 : gG p l e rmL_isLike s m args below meth c D (cyT cy) B9 5 (lIe (lWf cy A aK B X8) D (cyT cy) B9 below args s r (σ, ρ) 0 0) (lW cy A aK B X8 σ ρ) 0 0 0 [(0, .ref (B (1 + a0))), (1, .ref (B (1 + a1))), (2, .int a2)] [] := by
    refine g_iconst X dL_isLike_0 (v := (0 : Int32)) (by decide) ?_
    refine g_istore_n X dL_isLike_1 rfl (by decide) (lv' := [(3, .int (0 : Int32)), (0, .ref (B (1 + a0))), (1, .ref (B (1 + a1))), (2, .int a2)]) rfl ?_
    have L_11 : ∀ (c_1 : Nat) (hp_2 : c_1 < 3) (c_3 : Nat) (hp_4 : c_3 < 3) (c_5 : Int32) (σ_13 : St) (hz_15 : σ_13 = σ) (ρ_14 : St) (hz_16 : ρ_14 = ρ) (n_7 : Nat) (v_6 : Int32) (o_43 : (Int32) ⊕ (Unit)), f_L_isLike_L2 c_1 c_3 c_5 ρ_14 n_7 v_6 = some o_43 → (∀ (u_12 : Unit), o_43 = .inr (u_12) → gG p l e rmL_isLike s m args below meth c D (cyT cy) B9 5 (lIe (lWf cy A aK B X8) D (cyT cy) B9 below args s r (σ, ρ) 0 0) (lW cy A aK B X8 σ_13 ρ_14) 0 0 45 [] []) → (∀ r8, o_43 = .inl r8 → r8 = r) → gG p l e rmL_isLike s m args below meth c D (cyT cy) B9 5 (lIe (lWf cy A aK B X8) D (cyT cy) B9 below args s r (σ, ρ) 0 0) (lW cy A aK B X8 σ_13 ρ_14) 0 0 2 [(0, .ref (B (1 + c_1))), (1, .ref (B (1 + c_3))), (2, .int c_5), (3, .int v_6)] [] := by
      intro c_1 hp_2 c_3 hp_4 c_5 σ_13 hz_15 ρ_14 hz_16 n_7
      induction n_7 with
      | zero =>
        intro v_6 o_43 h K_9 K_10
        rw [f_L_isLike_L2] at h
        cases h
      | succ n_7 ih_8 =>
        intro v_6 o_43 h K_9 K_10
        rw [f_L_isLike_L2] at h
        refine g_iload_n X dL_isLike_2 rfl 3 rfl ?_
        refine g_iload_n X dL_isLike_3 rfl 2 rfl ?_
        refine g_icmp_ge X (tgt := 45) dL_isLike_4 (by decide) (fun hc_17 => ?_) (fun hc_17 => ?_)
        · have h := ift hc_17 h
          cases h
          exact g_sub [] rfl (K_9 _ rfl)
        · have h := iff_ hc_17 h
          refine g_iconst X dL_isLike_7 (v := (0 : Int32)) (by decide) ?_
          refine g_istore X dL_isLike_8 (by decide) (lv' := [(4, .int (0 : Int32)), (0, .ref (B (1 + c_1))), (1, .ref (B (1 + c_3))), (2, .int c_5), (3, .int v_6)]) rfl ?_
          have L_29 : ∀ (c_18 : Nat) (hp_19 : c_18 < 3) (c_20 : Nat) (hp_21 : c_20 < 3) (c_22 : Int32) (c_23 : Int32) (σ_31 : St) (hz_33 : σ_31 = σ_13) (ρ_32 : St) (hz_34 : ρ_32 = ρ_14) (n_25 : Nat) (v_24 : Int32) (o_41 : (Int32) ⊕ (Unit)), f_L_isLike_L10 c_18 c_20 c_23 ρ_32 n_25 v_24 = some o_41 → (∀ (u_30 : Unit), o_41 = .inr (u_30) → gG p l e rmL_isLike s m args below meth c D (cyT cy) B9 5 (lIe (lWf cy A aK B X8) D (cyT cy) B9 below args s r (σ, ρ) 0 0) (lW cy A aK B X8 σ_31 ρ_32) 0 0 39 [(0, .ref (B (1 + c_18))), (1, .ref (B (1 + c_20))), (2, .int c_22), (3, .int c_23)] []) → (∀ r8, o_41 = .inl r8 → r8 = r) → gG p l e rmL_isLike s m args below meth c D (cyT cy) B9 5 (lIe (lWf cy A aK B X8) D (cyT cy) B9 below args s r (σ, ρ) 0 0) (lW cy A aK B X8 σ_31 ρ_32) 0 0 10 [(0, .ref (B (1 + c_18))), (1, .ref (B (1 + c_20))), (2, .int c_22), (3, .int c_23), (4, .int v_24)] [] := by
            intro c_18 hp_19 c_20 hp_21 c_22 c_23 σ_31 hz_33 ρ_32 hz_34 n_25
            induction n_25 with
            | zero =>
              intro v_24 o_41 h K_27 K_28
              rw [f_L_isLike_L10] at h
              cases h
            | succ n_25 ih_26 =>
              intro v_24 o_41 h K_27 K_28
              rw [f_L_isLike_L10] at h
              refine g_iload X dL_isLike_10 4 rfl ?_
              refine g_iconst X dL_isLike_12 (v := (3 : Int32)) (by decide) ?_
              refine g_icmp_ge X (tgt := 39) dL_isLike_13 (by decide) (fun hc_35 => ?_) (fun hc_35 => ?_)
              · have h := ift hc_35 h
                cases h
                exact g_sub [0, 1, 2, 3] rfl (K_27 _ rfl)
              · have h := iff_ hc_35 h
                refine g_aload_n X dL_isLike_16 rfl 0 rfl ?_
                refine g_iload X dL_isLike_17 4 rfl ?_
                obtain ⟨hg_36, h⟩ := grd_some h
                refine h_aald X hp_19 (k9 := v_24.toNatClampNeg) (inR0 hg_36) rfl (inR hg_36) dL_isLike_19 ?_
                refine g_iload_n X dL_isLike_20 rfl 3 rfl ?_
                obtain ⟨hg_37, h⟩ := grd_some h
                refine h_gld X (isGr.mk hp_19 (inR hg_36)) (k9 := c_23.toNatClampNeg) hg_37 rfl dL_isLike_21 ?_
                refine g_aload_n X dL_isLike_22 rfl 1 rfl ?_
                refine g_iload X dL_isLike_23 4 rfl ?_
                obtain ⟨hg_38, h⟩ := grd_some h
                refine h_aald X hp_21 (k9 := v_24.toNatClampNeg) (inR0 hg_38) rfl (inR hg_38) dL_isLike_25 ?_
                refine g_iload_n X dL_isLike_26 rfl 3 rfl ?_
                obtain ⟨hg_39, h⟩ := grd_some h
                refine h_gld X (isGr.mk hp_21 (inR hg_38)) (k9 := c_23.toNatClampNeg) hg_39 rfl dL_isLike_27 ?_
                refine g_icmp_eq X (tgt := 33) dL_isLike_28 (by decide) (fun hc_40 => ?_) (fun hc_40 => ?_)
                · have h := ift hc_40 h
                  refine g_iinc X dL_isLike_33 4 rfl (v := v_24 + (1 : Int32)) rfl (by decide) (lv' := [(4, .int (v_24 + (1 : Int32))), (0, .ref (B (1 + c_18))), (1, .ref (B (1 + c_20))), (2, .int c_22), (3, .int c_23)]) rfl ?_
                  refine g_goto X (tgt := 10) dL_isLike_36 (by decide) ?_
                  exact g_sub [1, 2, 3, 4, 0] rfl (ih_26 _ _ h K_27 K_28)
                · have h := iff_ hc_40 h
                  refine g_iconst X dL_isLike_31 (v := (0 : Int32)) (by decide) ?_
                  cases h
                  cases K_28 _ rfl
                  rw [hz_33]
                  rw [hz_15]
                  rw [hz_34]
                  rw [hz_16]
                  exact g_zret (Wf := (lWf cy A aK B X8)) (u := (σ, ρ)) X rfl ⟨rfl, rfl⟩ dL_isLike_32
          rcases bndR_some h with ⟨r9, hl_42, he9⟩ | ⟨o9, hl_42, h⟩
          · exact g_sub [1, 2, 3, 4, 0] rfl (L_29 c_1 hp_2 c_3 hp_4 c_5 v_6 σ_13 rfl ρ_14 rfl FU (0 : Int32) (.inl r9) hl_42 (fun u_30 e9 => nomatch e9) (fun r8 e9 => by cases e9; exact K_10 _ he9.symm))
          · obtain ⟨u_30, rfl⟩ : ∃ z, z = o9 := ⟨_, rfl⟩
            refine g_sub [1, 2, 3, 4, 0] rfl (L_29 c_1 hp_2 c_3 hp_4 c_5 v_6 σ_13 rfl ρ_14 rfl FU (0 : Int32) (.inr u_30) hl_42 (fun u_30z e9 => ?_) (fun r8 e9 => nomatch e9))
            cases e9
            refine g_iinc X dL_isLike_39 3 rfl (v := v_6 + (1 : Int32)) rfl (by decide) (lv' := [(3, .int (v_6 + (1 : Int32))), (0, .ref (B (1 + c_1))), (1, .ref (B (1 + c_3))), (2, .int c_5)]) rfl ?_
            refine g_goto X (tgt := 2) dL_isLike_42 (by decide) ?_
            exact g_sub [1, 2, 3, 0] rfl (ih_8 _ _ h K_9 K_10)
    rcases bndR_some h with ⟨r9, hl_44, he9⟩ | ⟨o9, hl_44, h⟩
    · exact g_sub [1, 2, 3, 0] rfl (L_11 a0 h0 a1 h1 a2 σ rfl ρ rfl FU (0 : Int32) (.inl r9) hl_44 (fun u_12 e9 => nomatch e9) (fun r8 e9 => by cases e9; exact he9))
    · obtain ⟨u_12, rfl⟩ : ∃ z, z = o9 := ⟨_, rfl⟩
      refine g_sub [1, 2, 3, 0] rfl (L_11 a0 h0 a1 h1 a2 σ rfl ρ rfl FU (0 : Int32) (.inr u_12) hl_44 (fun u_12z e9 => ?_) (fun r8 e9 => nomatch e9))
      cases e9
      refine g_iconst X dL_isLike_45 (v := (1 : Int32)) (by decide) ?_
      cases h
      exact g_zret (Wf := (lWf cy A aK B X8)) (u := (_, _)) X rfl ⟨rfl, rfl⟩ dL_isLike_46
  exact K0
set_option maxHeartbeats 16000000 in
set_option maxRecDepth 100000 in
theorem m_L_isAhead {σ ρ : St} {a0 : Nat} {a1 : Int32} {a2 : Nat} {a3 : Int32} {a4 : Int32} {r : Int32} (h0 : a0 < 3) (h2 : a2 < 3) (h : f_L_isAhead a0 a1 a2 a3 a4 ρ = some r) : wI (ZL aK aO aS aV aT bS bV dA) D (cyT cy) l yL_isAhead wsL_isAhead rmL_isAhead (lWf cy A aK B X8) [.ref (B (1 + a0)), .int a1, .ref (B (1 + a2)), .int a3, .int a4] (σ, ρ) r (σ, ρ) 0 0 := by
  unfold f_L_isAhead at h
  refine wI_of (cc := cL_isAhead) (maxL := 5) (ret := (some .boolean)) (by decide) rfl (Nat.le_of_ble_eq_true rfl) (fun p e s m args below meth c B9 X => ?_)
  have K0 : gG p l e rmL_isAhead s m args below meth c D (cyT cy) B9 5 (lIe (lWf cy A aK B X8) D (cyT cy) B9 below args s r (σ, ρ) 0 0) (lW cy A aK B X8 σ ρ) 0 0 0 [(0, .ref (B (1 + a0))), (1, .int a1), (2, .ref (B (1 + a2))), (3, .int a3), (4, .int a4)] [] := by
    refine g_iload X dL_isAhead_0 4 rfl ?_
    refine g_iconst X dL_isAhead_2 (v := (1 : Int32)) (by decide) ?_
    refine g_icmp_ne X (tgt := 25) dL_isAhead_3 (by decide) (fun hc_1 => ?_) (fun hc_1 => ?_)
    · have h := iff_ hc_1 h
      refine g_iload X dL_isAhead_25 4 rfl ?_
      refine g_iconst X dL_isAhead_27 (v := (2 : Int32)) (by decide) ?_
      refine g_icmp_ne X (tgt := 50) dL_isAhead_28 (by decide) (fun hc_2 => ?_) (fun hc_2 => ?_)
      · have h := iff_ hc_2 h
        refine g_aload_n X dL_isAhead_50 rfl 0 rfl ?_
        refine g_iconst X dL_isAhead_51 (v := (0 : Int32)) (by decide) ?_
        refine h_aald X h0 (k9 := 0) (by decide) (by decide) (by decide) dL_isAhead_52 ?_
        refine g_iload_n X dL_isAhead_53 rfl 1 rfl ?_
        obtain ⟨hg_3, h⟩ := grd_some h
        refine h_gld X (isGr.mk h0 (k9 := 0) (by decide)) (k9 := a1.toNatClampNeg) hg_3 rfl dL_isAhead_54 ?_
        refine g_aload_n X dL_isAhead_55 rfl 2 rfl ?_
        refine g_iconst X dL_isAhead_56 (v := (0 : Int32)) (by decide) ?_
        refine h_aald X h2 (k9 := 0) (by decide) (by decide) (by decide) dL_isAhead_57 ?_
        refine g_iload_n X dL_isAhead_58 rfl 3 rfl ?_
        obtain ⟨hg_4, h⟩ := grd_some h
        refine h_gld X (isGr.mk h2 (k9 := 0) (by decide)) (k9 := a3.toNatClampNeg) hg_4 rfl dL_isAhead_59 ?_
        obtain ⟨v_6, hj_16, h⟩ := bnd_some h
        have K_7 : gG p l e rmL_isAhead s m args below meth c D (cyT cy) B9 5 (lIe (lWf cy A aK B X8) D (cyT cy) B9 below args s r (σ, ρ) 0 0) (lW cy A aK B X8 σ ρ) 0 0 100 [] [.int v_6] := by
          obtain ⟨hg_15, h⟩ := grd_some h
          cases h
          exact g_zret (Wf := (lWf cy A aK B X8)) (u := (_, _)) X (nar01 hg_15) ⟨rfl, rfl⟩ dL_isAhead_100
        have h := hj_16
        clear hj_16
        refine g_icmp_lt X (tgt := 95) dL_isAhead_60 (by decide) (fun hc_5 => ?_) (fun hc_5 => ?_)
        · have h := ift hc_5 h
          refine g_iconst X dL_isAhead_95 (v := (1 : Int32)) (by decide) ?_
          refine g_goto X (tgt := 100) dL_isAhead_96 (by decide) ?_
          cases h
          exact g_sub [] rfl K_7
        · have h := iff_ hc_5 h
          refine g_iload X dL_isAhead_63 4 rfl ?_
          refine g_iconst X dL_isAhead_65 (v := (3 : Int32)) (by decide) ?_
          refine g_icmp_ne X (tgt := 99) dL_isAhead_66 (by decide) (fun hc_8 => ?_) (fun hc_8 => ?_)
          · have h := iff_ hc_8 h
            refine g_iconst X dL_isAhead_99 (v := (0 : Int32)) (by decide) ?_
            cases h
            exact g_sub [] rfl K_7
          · have h := ift hc_8 h
            refine g_aload_n X dL_isAhead_69 rfl 0 rfl ?_
            refine g_iconst X dL_isAhead_70 (v := (0 : Int32)) (by decide) ?_
            refine h_aald X h0 (k9 := 0) (by decide) (by decide) (by decide) dL_isAhead_71 ?_
            refine g_iload_n X dL_isAhead_72 rfl 1 rfl ?_
            obtain ⟨hg_9, h⟩ := grd_some h
            refine h_gld X (isGr.mk h0 (k9 := 0) (by decide)) (k9 := a1.toNatClampNeg) hg_9 rfl dL_isAhead_73 ?_
            refine g_aload_n X dL_isAhead_74 rfl 2 rfl ?_
            refine g_iconst X dL_isAhead_75 (v := (0 : Int32)) (by decide) ?_
            refine h_aald X h2 (k9 := 0) (by decide) (by decide) (by decide) dL_isAhead_76 ?_
            refine g_iload_n X dL_isAhead_77 rfl 3 rfl ?_
            obtain ⟨hg_10, h⟩ := grd_some h
            refine h_gld X (isGr.mk h2 (k9 := 0) (by decide)) (k9 := a3.toNatClampNeg) hg_10 rfl dL_isAhead_78 ?_
            refine g_icmp_ne X (tgt := 99) dL_isAhead_79 (by decide) (fun hc_11 => ?_) (fun hc_11 => ?_)
            · have h := iff_ hc_11 h
              refine g_iconst X dL_isAhead_99 (v := (0 : Int32)) (by decide) ?_
              cases h
              exact g_sub [] rfl K_7
            · have h := ift hc_11 h
              refine g_aload_n X dL_isAhead_82 rfl 0 rfl ?_
              refine g_iconst X dL_isAhead_83 (v := (1 : Int32)) (by decide) ?_
              refine h_aald X h0 (k9 := 1) (by decide) (by decide) (by decide) dL_isAhead_84 ?_
              refine g_iload_n X dL_isAhead_85 rfl 1 rfl ?_
              obtain ⟨hg_12, h⟩ := grd_some h
              refine h_gld X (isGr.mk h0 (k9 := 1) (by decide)) (k9 := a1.toNatClampNeg) hg_12 rfl dL_isAhead_86 ?_
              refine g_aload_n X dL_isAhead_87 rfl 2 rfl ?_
              refine g_iconst X dL_isAhead_88 (v := (1 : Int32)) (by decide) ?_
              refine h_aald X h2 (k9 := 1) (by decide) (by decide) (by decide) dL_isAhead_89 ?_
              refine g_iload_n X dL_isAhead_90 rfl 3 rfl ?_
              obtain ⟨hg_13, h⟩ := grd_some h
              refine h_gld X (isGr.mk h2 (k9 := 1) (by decide)) (k9 := a3.toNatClampNeg) hg_13 rfl dL_isAhead_91 ?_
              refine g_icmp_ge X (tgt := 99) dL_isAhead_92 (by decide) (fun hc_14 => ?_) (fun hc_14 => ?_)
              · have h := ift hc_14 h
                refine g_iconst X dL_isAhead_99 (v := (0 : Int32)) (by decide) ?_
                cases h
                exact g_sub [] rfl K_7
              · have h := iff_ hc_14 h
                refine g_iconst X dL_isAhead_95 (v := (1 : Int32)) (by decide) ?_
                refine g_goto X (tgt := 100) dL_isAhead_96 (by decide) ?_
                cases h
                exact g_sub [] rfl K_7
      · have h := ift hc_2 h
        refine g_aload_n X dL_isAhead_31 rfl 0 rfl ?_
        refine g_iconst X dL_isAhead_32 (v := (1 : Int32)) (by decide) ?_
        refine h_aald X h0 (k9 := 1) (by decide) (by decide) (by decide) dL_isAhead_33 ?_
        refine g_iload_n X dL_isAhead_34 rfl 1 rfl ?_
        obtain ⟨hg_17, h⟩ := grd_some h
        refine h_gld X (isGr.mk h0 (k9 := 1) (by decide)) (k9 := a1.toNatClampNeg) hg_17 rfl dL_isAhead_35 ?_
        refine g_aload_n X dL_isAhead_36 rfl 2 rfl ?_
        refine g_iconst X dL_isAhead_37 (v := (1 : Int32)) (by decide) ?_
        refine h_aald X h2 (k9 := 1) (by decide) (by decide) (by decide) dL_isAhead_38 ?_
        refine g_iload_n X dL_isAhead_39 rfl 3 rfl ?_
        obtain ⟨hg_18, h⟩ := grd_some h
        refine h_gld X (isGr.mk h2 (k9 := 1) (by decide)) (k9 := a3.toNatClampNeg) hg_18 rfl dL_isAhead_40 ?_
        obtain ⟨v_20, hj_23, h⟩ := bnd_some h
        have K_21 : gG p l e rmL_isAhead s m args below meth c D (cyT cy) B9 5 (lIe (lWf cy A aK B X8) D (cyT cy) B9 below args s r (σ, ρ) 0 0) (lW cy A aK B X8 σ ρ) 0 0 49 [] [.int v_20] := by
          obtain ⟨hg_22, h⟩ := grd_some h
          cases h
          exact g_zret (Wf := (lWf cy A aK B X8)) (u := (_, _)) X (nar01 hg_22) ⟨rfl, rfl⟩ dL_isAhead_49
        have h := hj_23
        clear hj_23
        refine g_icmp_ge X (tgt := 48) dL_isAhead_41 (by decide) (fun hc_19 => ?_) (fun hc_19 => ?_)
        · have h := ift hc_19 h
          refine g_iconst X dL_isAhead_48 (v := (0 : Int32)) (by decide) ?_
          cases h
          exact g_sub [] rfl K_21
        · have h := iff_ hc_19 h
          refine g_iconst X dL_isAhead_44 (v := (1 : Int32)) (by decide) ?_
          refine g_goto X (tgt := 49) dL_isAhead_45 (by decide) ?_
          cases h
          exact g_sub [] rfl K_21
    · have h := ift hc_1 h
      refine g_aload_n X dL_isAhead_6 rfl 0 rfl ?_
      refine g_iconst X dL_isAhead_7 (v := (0 : Int32)) (by decide) ?_
      refine h_aald X h0 (k9 := 0) (by decide) (by decide) (by decide) dL_isAhead_8 ?_
      refine g_iload_n X dL_isAhead_9 rfl 1 rfl ?_
      obtain ⟨hg_24, h⟩ := grd_some h
      refine h_gld X (isGr.mk h0 (k9 := 0) (by decide)) (k9 := a1.toNatClampNeg) hg_24 rfl dL_isAhead_10 ?_
      refine g_aload_n X dL_isAhead_11 rfl 2 rfl ?_
      refine g_iconst X dL_isAhead_12 (v := (0 : Int32)) (by decide) ?_
      refine h_aald X h2 (k9 := 0) (by decide) (by decide) (by decide) dL_isAhead_13 ?_
      refine g_iload_n X dL_isAhead_14 rfl 3 rfl ?_
      obtain ⟨hg_25, h⟩ := grd_some h
      refine h_gld X (isGr.mk h2 (k9 := 0) (by decide)) (k9 := a3.toNatClampNeg) hg_25 rfl dL_isAhead_15 ?_
      obtain ⟨v_27, hj_30, h⟩ := bnd_some h
      have K_28 : gG p l e rmL_isAhead s m args below meth c D (cyT cy) B9 5 (lIe (lWf cy A aK B X8) D (cyT cy) B9 below args s r (σ, ρ) 0 0) (lW cy A aK B X8 σ ρ) 0 0 24 [] [.int v_27] := by
        obtain ⟨hg_29, h⟩ := grd_some h
        cases h
        exact g_zret (Wf := (lWf cy A aK B X8)) (u := (_, _)) X (nar01 hg_29) ⟨rfl, rfl⟩ dL_isAhead_24
      have h := hj_30
      clear hj_30
      refine g_icmp_le X (tgt := 23) dL_isAhead_16 (by decide) (fun hc_26 => ?_) (fun hc_26 => ?_)
      · have h := ift hc_26 h
        refine g_iconst X dL_isAhead_23 (v := (0 : Int32)) (by decide) ?_
        cases h
        exact g_sub [] rfl K_28
      · have h := iff_ hc_26 h
        refine g_iconst X dL_isAhead_19 (v := (1 : Int32)) (by decide) ?_
        refine g_goto X (tgt := 24) dL_isAhead_20 (by decide) ?_
        cases h
        exact g_sub [] rfl K_28
  exact K0
set_option maxHeartbeats 16000000 in
set_option maxRecDepth 100000 in
theorem m_L_due {σ ρ : St} {a0 : Nat} {a1 : Int32} {a2 : Int32} {a3 : Int32} {a4 : Nat} {r : Int32} {ρ' : St} (h0 : a0 < 3) (h4 : a4 < 3) (h : f_L_due a0 a1 a2 a3 a4 ρ = some (r, ρ')) : wI (ZL aK aO aS aV aT bS bV dA) D (cyT cy) l yL_due wsL_due rmL_due (lWf cy A aK B X8) [.ref (B (1 + a0)), .int a1, .int a2, .int a3, .ref (B (1 + a4)), .ref (B 13)] (σ, ρ) r (σ, ρ') 0 0 := by
  unfold f_L_due at h
  refine wI_of (cc := cL_due) (maxL := 10) (ret := (some .int)) (by decide) rfl (Nat.le_of_ble_eq_true rfl) (fun p e s m args below meth c B9 X => ?_)
  have K0 : gG p l e rmL_due s m args below meth c D (cyT cy) B9 10 (lIe (lWf cy A aK B X8) D (cyT cy) B9 below args s r (σ, ρ') 0 0) (lW cy A aK B X8 σ ρ) 0 0 0 [(0, .ref (B (1 + a0))), (1, .int a1), (2, .int a2), (3, .int a3), (4, .ref (B (1 + a4))), (5, .ref (B 13))] [] := by
    refine g_iconst X dL_due_0 (v := (0 : Int32)) (by decide) ?_
    refine g_istore X dL_due_1 (by decide) (lv' := [(6, .int (0 : Int32)), (0, .ref (B (1 + a0))), (1, .int a1), (2, .int a2), (3, .int a3), (4, .ref (B (1 + a4))), (5, .ref (B 13))]) rfl ?_
    refine g_iload_n X dL_due_3 rfl 2 rfl ?_
    refine g_istore X dL_due_4 (by decide) (lv' := [(7, .int a1), (6, .int (0 : Int32)), (0, .ref (B (1 + a0))), (1, .int a1), (2, .int a2), (3, .int a3), (4, .ref (B (1 + a4))), (5, .ref (B 13))]) rfl ?_
    have L_15 : ∀ (c_1 : Nat) (hp_2 : c_1 < 3) (c_3 : Int32) (c_4 : Int32) (c_5 : Int32) (c_6 : Nat) (hp_7 : c_6 < 3) (c_8 : Int32) (σ_17 : St) (hz_18 : σ_17 = σ) (n_11 : Nat) (v_9 : Int32) (ρ_10 : St) (ρ_16 : St), f_L_due_L6 c_4 n_11 v_9 ρ_10 = some (ρ_16) → gG p l e rmL_due s m args below meth c D (cyT cy) B9 10 (lIe (lWf cy A aK B X8) D (cyT cy) B9 below args s r (σ, ρ') 0 0) (lW cy A aK B X8 σ_17 ρ_16) 0 0 24 [(0, .ref (B (1 + c_1))), (1, .int c_3), (2, .int c_4), (3, .int c_5), (4, .ref (B (1 + c_6))), (5, .ref (B 13)), (6, .int c_8)] [] → gG p l e rmL_due s m args below meth c D (cyT cy) B9 10 (lIe (lWf cy A aK B X8) D (cyT cy) B9 below args s r (σ, ρ') 0 0) (lW cy A aK B X8 σ_17 ρ_10) 0 0 6 [(0, .ref (B (1 + c_1))), (1, .int c_3), (2, .int c_4), (3, .int c_5), (4, .ref (B (1 + c_6))), (5, .ref (B 13)), (6, .int c_8), (7, .int v_9)] [] := by
      intro c_1 hp_2 c_3 c_4 c_5 c_6 hp_7 c_8 σ_17 hz_18 n_11
      induction n_11 with
      | zero =>
        intro v_9 ρ_10 ρ_16 h K_13
        rw [f_L_due_L6] at h
        cases h
      | succ n_11 ih_12 =>
        intro v_9 ρ_10 ρ_16 h K_13
        rw [f_L_due_L6] at h
        refine g_iload X dL_due_6 7 rfl ?_
        refine g_iload_n X dL_due_8 rfl 2 rfl ?_
        refine g_icmp_ge X (tgt := 24) dL_due_9 (by decide) (fun hc_19 => ?_) (fun hc_19 => ?_)
        · have h := ift hc_19 h
          cases h
          exact g_sub [0, 1, 2, 3, 4, 5, 6] rfl K_13
        · have h := iff_ hc_19 h
          refine g_aload X dL_due_12 5 rfl ?_
          refine g_iload X dL_due_14 7 rfl ?_
          refine g_iconst X dL_due_16 (v := (0 : Int32)) (by decide) ?_
          obtain ⟨hg_20, h⟩ := grd_some h
          refine h_tst X (k9 := v_9.toNatClampNeg) hg_20 rfl dL_due_17 ?_
          obtain ⟨ρ_21, e_22, h⟩ := bnd_some h
          have e_22 := Option.some.inj e_22
          rw [e_22]
          refine g_iinc X dL_due_18 7 rfl (v := v_9 + (1 : Int32)) rfl (by decide) (lv' := [(7, .int (v_9 + (1 : Int32))), (0, .ref (B (1 + c_1))), (1, .int c_3), (2, .int c_4), (3, .int c_5), (4, .ref (B (1 + c_6))), (5, .ref (B 13)), (6, .int c_8)]) rfl ?_
          refine g_goto X (tgt := 6) dL_due_21 (by decide) ?_
          exact g_sub [1, 2, 3, 4, 5, 6, 7, 0] rfl (ih_12 _ _ _ h K_13)
    obtain ⟨ρ_16, hl_23, h⟩ := bnd_some h
    refine g_sub [2, 3, 4, 5, 6, 7, 1, 0] rfl (L_15 a0 h0 a1 a2 a3 a4 h4 (0 : Int32) σ rfl FU a1 ρ ρ_16 hl_23 ?_)
    refine g_iload_n X dL_due_24 rfl 1 rfl ?_
    refine g_istore X dL_due_25 (by decide) (lv' := [(7, .int a1), (0, .ref (B (1 + a0))), (1, .int a1), (2, .int a2), (3, .int a3), (4, .ref (B (1 + a4))), (5, .ref (B 13)), (6, .int (0 : Int32))]) rfl ?_
    have L_38 : ∀ (c_24 : Nat) (hp_25 : c_24 < 3) (c_26 : Int32) (c_27 : Int32) (c_28 : Int32) (c_29 : Nat) (hp_30 : c_29 < 3) (σ_41 : St) (hz_42 : σ_41 = σ) (n_34 : Nat) (v_31 : Int32) (v_32 : Int32) (ρ_33 : St) (o_40 : Int32) (ρ_39 : St), f_L_due_L27 c_24 c_26 c_27 c_28 c_29 n_34 v_31 v_32 ρ_33 = some (o_40, ρ_39) → gG p l e rmL_due s m args below meth c D (cyT cy) B9 10 (lIe (lWf cy A aK B X8) D (cyT cy) B9 below args s r (σ, ρ') 0 0) (lW cy A aK B X8 σ_41 ρ_39) 0 0 128 [(6, .int o_40)] [] → gG p l e rmL_due s m args below meth c D (cyT cy) B9 10 (lIe (lWf cy A aK B X8) D (cyT cy) B9 below args s r (σ, ρ') 0 0) (lW cy A aK B X8 σ_41 ρ_33) 0 0 27 [(0, .ref (B (1 + c_24))), (1, .int c_26), (2, .int c_27), (3, .int c_28), (4, .ref (B (1 + c_29))), (5, .ref (B 13)), (6, .int v_31), (7, .int v_32)] [] := by
      intro c_24 hp_25 c_26 c_27 c_28 c_29 hp_30 σ_41 hz_42 n_34
      induction n_34 with
      | zero =>
        intro v_31 v_32 ρ_33 o_40 ρ_39 h K_36
        rw [f_L_due_L27] at h
        cases h
      | succ n_34 ih_35 =>
        intro v_31 v_32 ρ_33 o_40 ρ_39 h K_36
        rw [f_L_due_L27] at h
        refine g_iload X dL_due_27 7 rfl ?_
        refine g_iload_n X dL_due_29 rfl 2 rfl ?_
        refine g_icmp_ge X (tgt := 128) dL_due_30 (by decide) (fun hc_43 => ?_) (fun hc_43 => ?_)
        · have h := ift hc_43 h
          cases h
          exact g_sub [6] rfl K_36
        · have h := iff_ hc_43 h
          refine g_iconst X dL_due_33 (v := (-1 : Int32)) (by decide) ?_
          refine g_istore X dL_due_34 (by decide) (lv' := [(8, .int (-1 : Int32)), (0, .ref (B (1 + c_24))), (1, .int c_26), (2, .int c_27), (3, .int c_28), (4, .ref (B (1 + c_29))), (5, .ref (B 13)), (6, .int v_31), (7, .int v_32)]) rfl ?_
          refine g_iload_n X dL_due_36 rfl 2 rfl ?_
          refine g_istore X dL_due_37 (by decide) (lv' := [(9, .int c_26), (8, .int (-1 : Int32)), (0, .ref (B (1 + c_24))), (1, .int c_26), (2, .int c_27), (3, .int c_28), (4, .ref (B (1 + c_29))), (5, .ref (B 13)), (6, .int v_31), (7, .int v_32)]) rfl ?_
          have L_59 : ∀ (c_44 : Nat) (hp_45 : c_44 < 3) (c_46 : Int32) (c_47 : Int32) (c_48 : Int32) (c_49 : Nat) (hp_50 : c_49 < 3) (c_51 : Int32) (c_52 : Int32) (σ_61 : St) (hz_63 : σ_61 = σ_41) (ρ_62 : St) (hz_64 : ρ_62 = ρ_33) (n_55 : Nat) (v_53 : Int32) (v_54 : Int32) (o_60 : Int32), f_L_due_L39 c_44 c_47 c_48 ρ_62 n_55 v_53 v_54 = some (o_60) → gG p l e rmL_due s m args below meth c D (cyT cy) B9 10 (lIe (lWf cy A aK B X8) D (cyT cy) B9 below args s r (σ, ρ') 0 0) (lW cy A aK B X8 σ_61 ρ_62) 0 0 81 [(0, .ref (B (1 + c_44))), (1, .int c_46), (2, .int c_47), (3, .int c_48), (4, .ref (B (1 + c_49))), (5, .ref (B 13)), (6, .int c_51), (7, .int c_52), (8, .int o_60)] [] → gG p l e rmL_due s m args below meth c D (cyT cy) B9 10 (lIe (lWf cy A aK B X8) D (cyT cy) B9 below args s r (σ, ρ') 0 0) (lW cy A aK B X8 σ_61 ρ_62) 0 0 39 [(0, .ref (B (1 + c_44))), (1, .int c_46), (2, .int c_47), (3, .int c_48), (4, .ref (B (1 + c_49))), (5, .ref (B 13)), (6, .int c_51), (7, .int c_52), (8, .int v_53), (9, .int v_54)] [] := by
            intro c_44 hp_45 c_46 c_47 c_48 c_49 hp_50 c_51 c_52 σ_61 hz_63 ρ_62 hz_64 n_55
            induction n_55 with
            | zero =>
              intro v_53 v_54 o_60 h K_57
              rw [f_L_due_L39] at h
              cases h
            | succ n_55 ih_56 =>
              intro v_53 v_54 o_60 h K_57
              rw [f_L_due_L39] at h
              refine g_iload X dL_due_39 9 rfl ?_
              refine g_iload_n X dL_due_41 rfl 2 rfl ?_
              refine g_icmp_ge X (tgt := 81) dL_due_42 (by decide) (fun hc_65 => ?_) (fun hc_65 => ?_)
              · have h := ift hc_65 h
                cases h
                exact g_sub [0, 1, 2, 3, 4, 5, 6, 7, 8] rfl K_57
              · have h := iff_ hc_65 h
                refine g_aload X dL_due_45 5 rfl ?_
                refine g_iload X dL_due_47 9 rfl ?_
                obtain ⟨hg_66, h⟩ := grd_some h
                refine h_tld X (k9 := v_54.toNatClampNeg) hg_66 rfl dL_due_49 ?_
                obtain ⟨v_68, hj_74, h⟩ := bnd_some h
                have K_69 : gG p l e rmL_due s m args below meth c D (cyT cy) B9 10 (lIe (lWf cy A aK B X8) D (cyT cy) B9 below args s r (σ, ρ') 0 0) (lW cy A aK B X8 σ_61 ρ_62) 0 0 75 [(0, .ref (B (1 + c_44))), (1, .int c_46), (2, .int c_47), (3, .int c_48), (4, .ref (B (1 + c_49))), (5, .ref (B 13)), (6, .int c_51), (7, .int c_52), (8, .int v_68), (9, .int v_54)] [] := by
                  refine g_iinc X dL_due_75 9 rfl (v := v_54 + (1 : Int32)) rfl (by decide) (lv' := [(9, .int (v_54 + (1 : Int32))), (0, .ref (B (1 + c_44))), (1, .int c_46), (2, .int c_47), (3, .int c_48), (4, .ref (B (1 + c_49))), (5, .ref (B 13)), (6, .int c_51), (7, .int c_52), (8, .int v_68)]) rfl ?_
                  refine g_goto X (tgt := 39) dL_due_78 (by decide) ?_
                  exact g_sub [1, 2, 3, 4, 5, 6, 7, 8, 9, 0] rfl (ih_56 _ _ _ h K_57)
                have h := hj_74
                clear hj_74
                refine g_if_ne X (tgt := 75) dL_due_50 (by decide) (fun hc_67 => ?_) (fun hc_67 => ?_)
                · have h := iff_ hc_67 h
                  cases h
                  exact g_sub [0, 1, 2, 3, 4, 5, 6, 7, 8, 9] rfl K_69
                · have h := ift hc_67 h
                  refine g_iload X dL_due_53 8 rfl ?_
                  refine g_if_lt X (tgt := 71) dL_due_55 (by decide) (fun hc_70 => ?_) (fun hc_70 => ?_)
                  · have h := ift hc_70 h
                    refine g_iload X dL_due_71 9 rfl ?_
                    refine g_istore X dL_due_73 (by decide) (lv' := [(8, .int v_54), (0, .ref (B (1 + c_44))), (1, .int c_46), (2, .int c_47), (3, .int c_48), (4, .ref (B (1 + c_49))), (5, .ref (B 13)), (6, .int c_51), (7, .int c_52), (9, .int v_54)]) rfl ?_
                    cases h
                    exact g_sub [1, 2, 3, 4, 5, 6, 7, 8, 0, 9] rfl K_69
                  · have h := iff_ hc_70 h
                    refine g_aload_n X dL_due_58 rfl 0 rfl ?_
                    refine g_iload X dL_due_59 9 rfl ?_
                    refine g_aload_n X dL_due_61 rfl 0 rfl ?_
                    refine g_iload X dL_due_62 8 rfl ?_
                    refine g_iload_n X dL_due_64 rfl 3 rfl ?_
                    obtain ⟨r_72, hf_71, h⟩ := bnd_some h
                    refine h_callI (As := [.ref (B (1 + c_44)), .int v_54, .ref (B (1 + c_44)), .int v_53, .int c_48]) (Wf := lWf cy A aK B X8) (ws9 := (lW cy A aK B X8 σ_61 ρ_62)) X (ZL_ok _ _ _ _ _ _ _ _) (m_L_isAhead hp_45 hp_45 hf_71) (va_cwS 5 X.1.2.2.2.2 gL_due_L_isAhead rfl rfl rfl (by decide +kernel) ⟨Nat.le_of_ble_eq_true rfl, Nat.le_of_ble_eq_true rfl⟩) rfl rfl (Nat.le_of_ble_eq_true rfl) ⟨by decide, by decide⟩ dL_due_65 rfl rfl (k' := 0) (n' := 0) (by decide) (by decide) ?_
                    refine g_if_eq X (tgt := 75) dL_due_68 (by decide) (fun hc_73 => ?_) (fun hc_73 => ?_)
                    · have h := ift hc_73 h
                      cases h
                      exact g_sub [0, 1, 2, 3, 4, 5, 6, 7, 8, 9] rfl K_69
                    · have h := iff_ hc_73 h
                      refine g_iload X dL_due_71 9 rfl ?_
                      refine g_istore X dL_due_73 (by decide) (lv' := [(8, .int v_54), (0, .ref (B (1 + c_44))), (1, .int c_46), (2, .int c_47), (3, .int c_48), (4, .ref (B (1 + c_49))), (5, .ref (B 13)), (6, .int c_51), (7, .int c_52), (9, .int v_54)]) rfl ?_
                      cases h
                      exact g_sub [1, 2, 3, 4, 5, 6, 7, 8, 0, 9] rfl K_69
          obtain ⟨o_60, hl_75, h⟩ := bnd_some h
          refine g_sub [2, 3, 4, 5, 6, 7, 8, 9, 1, 0] rfl (L_59 c_24 hp_25 c_26 c_27 c_28 c_29 hp_30 v_31 v_32 σ_41 rfl ρ_33 rfl FU (-1 : Int32) c_26 o_60 hl_75 ?_)
          refine g_aload X dL_due_81 5 rfl ?_
          refine g_iload X dL_due_83 8 rfl ?_
          refine g_iconst X dL_due_85 (v := (1 : Int32)) (by decide) ?_
          obtain ⟨hg_76, h⟩ := grd_some h
          refine h_tst X (k9 := o_60.toNatClampNeg) hg_76 rfl dL_due_86 ?_
          obtain ⟨ρ_77, e_78, h⟩ := bnd_some h
          have e_78 := Option.some.inj e_78
          rw [e_78]
          refine g_aload_n X dL_due_87 rfl 0 rfl ?_
          refine g_iload X dL_due_88 8 rfl ?_
          refine g_aload X dL_due_90 4 rfl ?_
          refine g_iload X dL_due_92 7 rfl ?_
          obtain ⟨ρ_80, hf_79, h⟩ := bnd_some h
          refine h_callV (As := [.ref (B (1 + c_24)), .int o_60, .ref (B (1 + c_29)), .int v_32]) (Wf := lWf cy A aK B X8) (ws9 := (lW cy A aK B X8 σ_41 ρ_80)) X (ZL_ok _ _ _ _ _ _ _ _) (m_L_copies hp_25 hp_30 hf_79) (va_cwS 4 X.1.2.2.2.2 gL_due_L_copies rfl rfl rfl (by decide +kernel) ⟨Nat.le_of_ble_eq_true rfl, Nat.le_of_ble_eq_true rfl⟩) rfl rfl (Nat.le_of_ble_eq_true rfl) ⟨by decide, by decide⟩ dL_due_94 rfl rfl (k' := 0) (n' := 0) (by decide) (by decide) ?_
          refine g_iload X dL_due_97 6 rfl ?_
          refine g_aload_n X dL_due_99 rfl 0 rfl ?_
          refine g_iconst X dL_due_100 (v := (2 : Int32)) (by decide) ?_
          refine h_aald X hp_25 (k9 := 2) (by decide) (by decide) (by decide) dL_due_101 ?_
          refine g_iload X dL_due_102 8 rfl ?_
          obtain ⟨hg_81, h⟩ := grd_some h
          refine h_gld X (isGr.mk hp_25 (k9 := 2) (by decide)) (k9 := o_60.toNatClampNeg) hg_81 rfl dL_due_104 ?_
          refine g_aload_n X dL_due_105 rfl 0 rfl ?_
          refine g_iconst X dL_due_106 (v := (2 : Int32)) (by decide) ?_
          refine h_aald X hp_25 (k9 := 2) (by decide) (by decide) (by decide) dL_due_107 ?_
          refine g_iload X dL_due_108 7 rfl ?_
          obtain ⟨hg_82, h⟩ := grd_some h
          refine h_gld X (isGr.mk hp_25 (k9 := 2) (by decide)) (k9 := v_32.toNatClampNeg) hg_82 rfl dL_due_110 ?_
          obtain ⟨v_84, hj_86, h⟩ := bnd_some h
          have K_85 : gG p l e rmL_due s m args below meth c D (cyT cy) B9 10 (lIe (lWf cy A aK B X8) D (cyT cy) B9 below args s r (σ, ρ') 0 0) (lW cy A aK B X8 σ_41 ρ_80) 0 0 119 [(0, .ref (B (1 + c_24))), (1, .int c_26), (2, .int c_27), (3, .int c_28), (4, .ref (B (1 + c_29))), (5, .ref (B 13)), (7, .int v_32)] [.int v_84, .int v_31] := by
            refine g_iadd X dL_due_119 ?_
            refine g_istore X dL_due_120 (by decide) (lv' := [(6, .int (v_31 + v_84)), (0, .ref (B (1 + c_24))), (1, .int c_26), (2, .int c_27), (3, .int c_28), (4, .ref (B (1 + c_29))), (5, .ref (B 13)), (7, .int v_32)]) rfl ?_
            refine g_iinc X dL_due_122 7 rfl (v := v_32 + (1 : Int32)) rfl (by decide) (lv' := [(7, .int (v_32 + (1 : Int32))), (6, .int (v_31 + v_84)), (0, .ref (B (1 + c_24))), (1, .int c_26), (2, .int c_27), (3, .int c_28), (4, .ref (B (1 + c_29))), (5, .ref (B 13))]) rfl ?_
            refine g_goto X (tgt := 27) dL_due_125 (by decide) ?_
            exact g_sub [2, 3, 4, 5, 6, 7, 1, 0] rfl (ih_35 _ _ _ _ _ h K_36)
          have h := hj_86
          clear hj_86
          refine g_icmp_ne X (tgt := 118) dL_due_111 (by decide) (fun hc_83 => ?_) (fun hc_83 => ?_)
          · have h := iff_ hc_83 h
            refine g_iconst X dL_due_118 (v := (1 : Int32)) (by decide) ?_
            cases h
            exact g_sub [0, 1, 2, 3, 4, 5, 7] rfl K_85
          · have h := ift hc_83 h
            refine g_iconst X dL_due_114 (v := (0 : Int32)) (by decide) ?_
            refine g_goto X (tgt := 119) dL_due_115 (by decide) ?_
            cases h
            exact g_sub [0, 1, 2, 3, 4, 5, 7] rfl K_85
    obtain ⟨o_40, ρ_39, hl_87, h⟩ := bnd2_some h
    refine g_sub [1, 2, 3, 4, 5, 6, 7, 0] rfl (L_38 a0 h0 a1 a2 a3 a4 h4 σ rfl FU (0 : Int32) a1 ρ_16 o_40 ρ_39 hl_87 ?_)
    refine g_iload X dL_due_128 0 rfl ?_
    cases h
    exact g_iret (Wf := (lWf cy A aK B X8)) (u := (_, _)) X ⟨rfl, rfl⟩ dL_due_130
  exact K0
end LV
