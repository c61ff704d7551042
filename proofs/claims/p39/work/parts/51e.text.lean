/-! the JDK's methods on texts: contracts over their own cells -/
section TM
variable {l : Launch} {D : va_G} {cy : Nat → ClassId} {aK aO aS aV aT bS bV dA : Nat → Nat}
abbrev rmS_ssz : Room := { frames := 0, cells := 0, slots := 0, locals := 0 }
set_option maxHeartbeats 4000000 in
set_option maxRecDepth 100000 in
theorem t_ssz {w : Nat} (hw : w < 1000) : cI (ZI aK aO aS aV aT bS bV dA) D (cyT cy) l yJ6_stringSize_0f7a4 wsJ6_stringSize_0f7a4 rmS_ssz [] [.int (nI w)] (fun r9 u9 => r9 = nI (sb_dg w) ∧ u9 = []) 0 0 := by
  refine cI_of (cc := cJ6_stringSize_0f7a4) (maxL := 4) (ret := (some .int)) (by decide) rfl (Nat.le_of_ble_eq_true rfl) (fun p e s m args below meth c B X hnm => ?_)
  have K0 : gG p l e rmS_ssz s m args below meth c D (cyT cy) B 4 (MQ below (va_Qi (fun r9 u9 => r9 = nI (sb_dg w) ∧ u9 = []) (gAt D (cyT cy) (fun w9 : va_W => w9) B) B) args s 0 0 B) [] 0 0 0 [(0, .int (nI w))] [] := by
    rcases (show w < 10 ∨ (10 ≤ w ∧ w < 100) ∨ (100 ≤ w ∧ w < 1000) by omega) with h1 | h1 | h1
    · have hd : sb_dg w = 1 := by unfold sb_dg; rw [if_pos (by omega)]
      refine g_iconst X dJ6_stringSize_0f7a4_0 (v := (1 : Int32)) (by decide) ?_
      refine g_istore_n X dJ6_stringSize_0f7a4_1 rfl (by decide) (lv' := [(1, .int (1 : Int32)), (0, .int (nI w))]) rfl ?_
      refine g_iload_n X dJ6_stringSize_0f7a4_2 rfl 1 rfl ?_
      refine g_if_lt X (tgt := 11) dJ6_stringSize_0f7a4_3 (by decide) (fun h9 => absurd h9 (nI_nn (by omega))) (fun _ => ?_)
      refine g_iconst X dJ6_stringSize_0f7a4_6 (v := (0 : Int32)) (by decide) ?_
      refine g_istore_n X dJ6_stringSize_0f7a4_7 rfl (by decide) (lv' := [(1, .int (0 : Int32)), (0, .int (nI w))]) rfl ?_
      refine g_iload_n X dJ6_stringSize_0f7a4_8 rfl 1 rfl ?_
      refine g_ineg X dJ6_stringSize_0f7a4_9 ?_
      refine g_top (y := -nI w) (rfl) ?_
      refine g_istore_n X dJ6_stringSize_0f7a4_10 rfl (by decide) (lv' := [(0, .int (-nI w)), (1, .int (0 : Int32))]) rfl ?_
      refine g_bipush X dJ6_stringSize_0f7a4_11 (v := (-10 : Int32)) (by decide) ?_
      refine g_top (y := -nI 10) (rfl) ?_
      refine g_istore_n X dJ6_stringSize_0f7a4_13 rfl (by decide) (lv' := [(2, .int (-nI 10)), (0, .int (-nI w)), (1, .int (0 : Int32))]) rfl ?_
      refine g_iconst X dJ6_stringSize_0f7a4_14 (v := (1 : Int32)) (by decide) ?_
      refine g_istore_n X dJ6_stringSize_0f7a4_15 rfl (by decide) (lv' := [(3, .int (1 : Int32)), (2, .int (-nI 10)), (0, .int (-nI w)), (1, .int (0 : Int32))]) rfl ?_
      refine g_iload_n X dJ6_stringSize_0f7a4_16 rfl 0 rfl ?_
      refine g_bipush X dJ6_stringSize_0f7a4_17 (v := (10 : Int32)) (by decide) ?_
      refine g_icmp_ge X (tgt := 42) dJ6_stringSize_0f7a4_19 (by decide) (fun h9 => absurd h9 (by decide)) (fun _ => ?_)
      refine g_iload_n X dJ6_stringSize_0f7a4_22 rfl 2 rfl ?_
      refine g_iload_n X dJ6_stringSize_0f7a4_23 rfl 1 rfl ?_
      refine g_icmp_le X (tgt := 31) dJ6_stringSize_0f7a4_24 (by decide) (fun h9 => absurd h9 (fun h8 => absurd ((sb_nle (by omega) (by omega)).mp h8) (by omega))) (fun _ => ?_)
      refine g_iload_n X dJ6_stringSize_0f7a4_27 rfl 0 rfl ?_
      refine g_iload_n X dJ6_stringSize_0f7a4_28 rfl 3 rfl ?_
      refine g_iadd X dJ6_stringSize_0f7a4_29 ?_
      refine g_top (y := nI 1) (by decide) ?_
      exact g_iret (Wf := fun w9 : va_W => w9) (u := []) X (⟨by rw [hd], rfl⟩) dJ6_stringSize_0f7a4_30
    · have hd : sb_dg w = 2 := by unfold sb_dg; rw [if_neg (by omega), if_pos (by omega)]
      refine g_iconst X dJ6_stringSize_0f7a4_0 (v := (1 : Int32)) (by decide) ?_
      refine g_istore_n X dJ6_stringSize_0f7a4_1 rfl (by decide) (lv' := [(1, .int (1 : Int32)), (0, .int (nI w))]) rfl ?_
      refine g_iload_n X dJ6_stringSize_0f7a4_2 rfl 1 rfl ?_
      refine g_if_lt X (tgt := 11) dJ6_stringSize_0f7a4_3 (by decide) (fun h9 => absurd h9 (nI_nn (by omega))) (fun _ => ?_)
      refine g_iconst X dJ6_stringSize_0f7a4_6 (v := (0 : Int32)) (by decide) ?_
      refine g_istore_n X dJ6_stringSize_0f7a4_7 rfl (by decide) (lv' := [(1, .int (0 : Int32)), (0, .int (nI w))]) rfl ?_
      refine g_iload_n X dJ6_stringSize_0f7a4_8 rfl 1 rfl ?_
      refine g_ineg X dJ6_stringSize_0f7a4_9 ?_
      refine g_top (y := -nI w) (rfl) ?_
      refine g_istore_n X dJ6_stringSize_0f7a4_10 rfl (by decide) (lv' := [(0, .int (-nI w)), (1, .int (0 : Int32))]) rfl ?_
      refine g_bipush X dJ6_stringSize_0f7a4_11 (v := (-10 : Int32)) (by decide) ?_
      refine g_top (y := -nI 10) (rfl) ?_
      refine g_istore_n X dJ6_stringSize_0f7a4_13 rfl (by decide) (lv' := [(2, .int (-nI 10)), (0, .int (-nI w)), (1, .int (0 : Int32))]) rfl ?_
      refine g_iconst X dJ6_stringSize_0f7a4_14 (v := (1 : Int32)) (by decide) ?_
      refine g_istore_n X dJ6_stringSize_0f7a4_15 rfl (by decide) (lv' := [(3, .int (1 : Int32)), (2, .int (-nI 10)), (0, .int (-nI w)), (1, .int (0 : Int32))]) rfl ?_
      refine g_iload_n X dJ6_stringSize_0f7a4_16 rfl 0 rfl ?_
      refine g_bipush X dJ6_stringSize_0f7a4_17 (v := (10 : Int32)) (by decide) ?_
      refine g_icmp_ge X (tgt := 42) dJ6_stringSize_0f7a4_19 (by decide) (fun h9 => absurd h9 (by decide)) (fun _ => ?_)
      refine g_iload_n X dJ6_stringSize_0f7a4_22 rfl 2 rfl ?_
      refine g_iload_n X dJ6_stringSize_0f7a4_23 rfl 1 rfl ?_
      refine g_icmp_le X (tgt := 31) dJ6_stringSize_0f7a4_24 (by decide) (fun _ => ?_) (fun h9 => absurd ((sb_nle (by omega) (by omega)).mpr (by omega)) h9)
      refine g_bipush X dJ6_stringSize_0f7a4_31 (v := (10 : Int32)) (by decide) ?_
      refine g_iload_n X dJ6_stringSize_0f7a4_33 rfl 1 rfl ?_
      refine g_imul X dJ6_stringSize_0f7a4_34 ?_
      refine g_top (y := -nI 100) (by decide) ?_
      refine g_istore_n X dJ6_stringSize_0f7a4_35 rfl (by decide) (lv' := [(2, .int (-nI 100)), (3, .int (1 : Int32)), (0, .int (-nI w)), (1, .int (0 : Int32))]) rfl ?_
      refine g_iinc X dJ6_stringSize_0f7a4_36 1 rfl (v := (2 : Int32)) (by decide) (by decide) (lv' := [(3, .int (2 : Int32)), (2, .int (-nI 100)), (0, .int (-nI w)), (1, .int (0 : Int32))]) rfl ?_
      refine g_goto X (tgt := 16) dJ6_stringSize_0f7a4_39 (by decide) ?_
      refine g_iload_n X dJ6_stringSize_0f7a4_16 rfl 0 rfl ?_
      refine g_bipush X dJ6_stringSize_0f7a4_17 (v := (10 : Int32)) (by decide) ?_
      refine g_icmp_ge X (tgt := 42) dJ6_stringSize_0f7a4_19 (by decide) (fun h9 => absurd h9 (by decide)) (fun _ => ?_)
      refine g_iload_n X dJ6_stringSize_0f7a4_22 rfl 2 rfl ?_
      refine g_iload_n X dJ6_stringSize_0f7a4_23 rfl 1 rfl ?_
      refine g_icmp_le X (tgt := 31) dJ6_stringSize_0f7a4_24 (by decide) (fun h9 => absurd h9 (fun h8 => absurd ((sb_nle (by omega) (by omega)).mp h8) (by omega))) (fun _ => ?_)
      refine g_iload_n X dJ6_stringSize_0f7a4_27 rfl 0 rfl ?_
      refine g_iload_n X dJ6_stringSize_0f7a4_28 rfl 3 rfl ?_
      refine g_iadd X dJ6_stringSize_0f7a4_29 ?_
      refine g_top (y := nI 2) (by decide) ?_
      exact g_iret (Wf := fun w9 : va_W => w9) (u := []) X (⟨by rw [hd], rfl⟩) dJ6_stringSize_0f7a4_30
    · have hd : sb_dg w = 3 := by unfold sb_dg; rw [if_neg (by omega), if_neg (by omega), if_pos (by omega)]
      refine g_iconst X dJ6_stringSize_0f7a4_0 (v := (1 : Int32)) (by decide) ?_
      refine g_istore_n X dJ6_stringSize_0f7a4_1 rfl (by decide) (lv' := [(1, .int (1 : Int32)), (0, .int (nI w))]) rfl ?_
      refine g_iload_n X dJ6_stringSize_0f7a4_2 rfl 1 rfl ?_
      refine g_if_lt X (tgt := 11) dJ6_stringSize_0f7a4_3 (by decide) (fun h9 => absurd h9 (nI_nn (by omega))) (fun _ => ?_)
      refine g_iconst X dJ6_stringSize_0f7a4_6 (v := (0 : Int32)) (by decide) ?_
      refine g_istore_n X dJ6_stringSize_0f7a4_7 rfl (by decide) (lv' := [(1, .int (0 : Int32)), (0, .int (nI w))]) rfl ?_
      refine g_iload_n X dJ6_stringSize_0f7a4_8 rfl 1 rfl ?_
      refine g_ineg X dJ6_stringSize_0f7a4_9 ?_
      refine g_top (y := -nI w) (rfl) ?_
      refine g_istore_n X dJ6_stringSize_0f7a4_10 rfl (by decide) (lv' := [(0, .int (-nI w)), (1, .int (0 : Int32))]) rfl ?_
      refine g_bipush X dJ6_stringSize_0f7a4_11 (v := (-10 : Int32)) (by decide) ?_
      refine g_top (y := -nI 10) (rfl) ?_
      refine g_istore_n X dJ6_stringSize_0f7a4_13 rfl (by decide) (lv' := [(2, .int (-nI 10)), (0, .int (-nI w)), (1, .int (0 : Int32))]) rfl ?_
      refine g_iconst X dJ6_stringSize_0f7a4_14 (v := (1 : Int32)) (by decide) ?_
      refine g_istore_n X dJ6_stringSize_0f7a4_15 rfl (by decide) (lv' := [(3, .int (1 : Int32)), (2, .int (-nI 10)), (0, .int (-nI w)), (1, .int (0 : Int32))]) rfl ?_
      refine g_iload_n X dJ6_stringSize_0f7a4_16 rfl 0 rfl ?_
      refine g_bipush X dJ6_stringSize_0f7a4_17 (v := (10 : Int32)) (by decide) ?_
      refine g_icmp_ge X (tgt := 42) dJ6_stringSize_0f7a4_19 (by decide) (fun h9 => absurd h9 (by decide)) (fun _ => ?_)
      refine g_iload_n X dJ6_stringSize_0f7a4_22 rfl 2 rfl ?_
      refine g_iload_n X dJ6_stringSize_0f7a4_23 rfl 1 rfl ?_
      refine g_icmp_le X (tgt := 31) dJ6_stringSize_0f7a4_24 (by decide) (fun _ => ?_) (fun h9 => absurd ((sb_nle (by omega) (by omega)).mpr (by omega)) h9)
      refine g_bipush X dJ6_stringSize_0f7a4_31 (v := (10 : Int32)) (by decide) ?_
      refine g_iload_n X dJ6_stringSize_0f7a4_33 rfl 1 rfl ?_
      refine g_imul X dJ6_stringSize_0f7a4_34 ?_
      refine g_top (y := -nI 100) (by decide) ?_
      refine g_istore_n X dJ6_stringSize_0f7a4_35 rfl (by decide) (lv' := [(2, .int (-nI 100)), (3, .int (1 : Int32)), (0, .int (-nI w)), (1, .int (0 : Int32))]) rfl ?_
      refine g_iinc X dJ6_stringSize_0f7a4_36 1 rfl (v := (2 : Int32)) (by decide) (by decide) (lv' := [(3, .int (2 : Int32)), (2, .int (-nI 100)), (0, .int (-nI w)), (1, .int (0 : Int32))]) rfl ?_
      refine g_goto X (tgt := 16) dJ6_stringSize_0f7a4_39 (by decide) ?_
      refine g_iload_n X dJ6_stringSize_0f7a4_16 rfl 0 rfl ?_
      refine g_bipush X dJ6_stringSize_0f7a4_17 (v := (10 : Int32)) (by decide) ?_
      refine g_icmp_ge X (tgt := 42) dJ6_stringSize_0f7a4_19 (by decide) (fun h9 => absurd h9 (by decide)) (fun _ => ?_)
      refine g_iload_n X dJ6_stringSize_0f7a4_22 rfl 2 rfl ?_
      refine g_iload_n X dJ6_stringSize_0f7a4_23 rfl 1 rfl ?_
      refine g_icmp_le X (tgt := 31) dJ6_stringSize_0f7a4_24 (by decide) (fun _ => ?_) (fun h9 => absurd ((sb_nle (by omega) (by omega)).mpr (by omega)) h9)
      refine g_bipush X dJ6_stringSize_0f7a4_31 (v := (10 : Int32)) (by decide) ?_
      refine g_iload_n X dJ6_stringSize_0f7a4_33 rfl 1 rfl ?_
      refine g_imul X dJ6_stringSize_0f7a4_34 ?_
      refine g_top (y := -nI 1000) (by decide) ?_
      refine g_istore_n X dJ6_stringSize_0f7a4_35 rfl (by decide) (lv' := [(2, .int (-nI 1000)), (3, .int (2 : Int32)), (0, .int (-nI w)), (1, .int (0 : Int32))]) rfl ?_
      refine g_iinc X dJ6_stringSize_0f7a4_36 1 rfl (v := (3 : Int32)) (by decide) (by decide) (lv' := [(3, .int (3 : Int32)), (2, .int (-nI 1000)), (0, .int (-nI w)), (1, .int (0 : Int32))]) rfl ?_
      refine g_goto X (tgt := 16) dJ6_stringSize_0f7a4_39 (by decide) ?_
      refine g_iload_n X dJ6_stringSize_0f7a4_16 rfl 0 rfl ?_
      refine g_bipush X dJ6_stringSize_0f7a4_17 (v := (10 : Int32)) (by decide) ?_
      refine g_icmp_ge X (tgt := 42) dJ6_stringSize_0f7a4_19 (by decide) (fun h9 => absurd h9 (by decide)) (fun _ => ?_)
      refine g_iload_n X dJ6_stringSize_0f7a4_22 rfl 2 rfl ?_
      refine g_iload_n X dJ6_stringSize_0f7a4_23 rfl 1 rfl ?_
      refine g_icmp_le X (tgt := 31) dJ6_stringSize_0f7a4_24 (by decide) (fun h9 => absurd h9 (fun h8 => absurd ((sb_nle (by omega) (by omega)).mp h8) (by omega))) (fun _ => ?_)
      refine g_iload_n X dJ6_stringSize_0f7a4_27 rfl 0 rfl ?_
      refine g_iload_n X dJ6_stringSize_0f7a4_28 rfl 3 rfl ?_
      refine g_iadd X dJ6_stringSize_0f7a4_29 ?_
      refine g_top (y := nI 3) (by decide) ?_
      exact g_iret (Wf := fun w9 : va_W => w9) (u := []) X (⟨by rw [hd], rfl⟩) dJ6_stringSize_0f7a4_30
  exact K0
abbrev rmS_gch : Room := { frames := 0, cells := 0, slots := 0, locals := 0 }
set_option maxHeartbeats 4000000 in
set_option maxRecDepth 100000 in
theorem t_gch {v cap n9 w : Nat} {f : Nat → Int32} (hw : w < 1000) (hcp : n9 + sb_dg w ≤ cap) (hcap : cap ≤ 262) (hf : sb_Fit f) : cI (ZI aK aO aS aV aT bS bV dA) D (cyT cy) l yJ6_getChars_ba4f3 wsJ6_getChars_ba4f3 rmS_gch [(v, .inl (cy 1, cap, .inl f))] [.int (nI w), .int (nI (n9 + sb_dg w)), .ref v] (fun r9 u9 => r9 = nI n9 ∧ ∃ f9 : Nat → Int32, u9 = [(v, .inl (cy 1, cap, .inl f9))] ∧ sb_Fit f9 ∧ (∀ j, j < n9 → f9 j = f j) ∧ ∀ j, j < sb_dg w → f9 (n9 + j) = sb_b (sb_dec w j)) 0 0 := by
  refine cI_of (cc := cJ6_getChars_ba4f3) (maxL := 7) (ret := (some .int)) (by decide) rfl (Nat.le_of_ble_eq_true rfl) (fun p e s m args below meth c B X hnm => ?_)
  have lk0 : Cond.fieldLink RJ6 83 "java/lang/Integer" "DigitOnes" "[B" ∈ wsJ6_getChars_ba4f3 := by decide +kernel
  have lk1 : Cond.fieldLink RJ6 87 "java/lang/Integer" "DigitTens" "[B" ∈ wsJ6_getChars_ba4f3 := by decide +kernel
  have K0 : gG p l e rmS_gch s m args below meth c D (cyT cy) B 7 (MQ below (va_Qi (fun r9 u9 => r9 = nI n9 ∧ ∃ f9 : Nat → Int32, u9 = [(v, .inl (cy 1, cap, .inl f9))] ∧ sb_Fit f9 ∧ (∀ j, j < n9 → f9 j = f j) ∧ ∀ j, j < sb_dg w → f9 (n9 + j) = sb_b (sb_dec w j)) (gAt D (cyT cy) (fun w9 : va_W => w9) B) B) args s 0 0 B) [(v, .inl (cy 1, cap, .inl f))] 0 0 0 [(0, .int (nI w)), (1, .int (nI (n9 + sb_dg w))), (2, .ref v)] [] := by
    rcases (show w < 10 ∨ (10 ≤ w ∧ w < 100) ∨ (100 ≤ w ∧ w < 1000) by omega) with h1 | h1 | h1
    · have hd : sb_dg w = 1 := by unfold sb_dg; rw [if_pos (by omega)]
      rw [hd]; rw [hd] at hcp
      refine g_iload_n X dJ6_getChars_ba4f3_0 rfl 1 rfl ?_
      refine g_istore X dJ6_getChars_ba4f3_1 (by decide) (lv' := [(5, .int (nI (n9 + 1))), (0, .int (nI w)), (1, .int (nI (n9 + 1))), (2, .ref v)]) rfl ?_
      refine g_iload_n X dJ6_getChars_ba4f3_3 rfl 1 rfl ?_
      refine g_if_ge X (tgt := 11) dJ6_getChars_ba4f3_4 (by decide) (fun _ => ?_) (fun h9 => absurd (by rw [nz0, nq_le (by omega) (by omega)]; omega) h9)
      refine g_iconst X dJ6_getChars_ba4f3_11 (v := (0 : Int32)) (by decide) ?_
      refine g_istore X dJ6_getChars_ba4f3_12 (by decide) (lv' := [(6, .int (0 : Int32)), (5, .int (nI (n9 + 1))), (0, .int (nI w)), (1, .int (nI (n9 + 1))), (2, .ref v)]) rfl ?_
      refine g_iload X dJ6_getChars_ba4f3_14 0 rfl ?_
      refine g_if_ne X (tgt := 22) dJ6_getChars_ba4f3_16 (by decide) (fun h9 => absurd (rfl) h9) (fun _ => ?_)
      refine g_iload_n X dJ6_getChars_ba4f3_19 rfl 2 rfl ?_
      refine g_ineg X dJ6_getChars_ba4f3_20 ?_
      refine g_top (y := -nI w) (rfl) ?_
      refine g_istore_n X dJ6_getChars_ba4f3_21 rfl (by decide) (lv' := [(0, .int (-nI w)), (6, .int (0 : Int32)), (5, .int (nI (n9 + 1))), (1, .int (nI (n9 + 1))), (2, .ref v)]) rfl ?_
      refine g_iload_n X dJ6_getChars_ba4f3_22 rfl 0 rfl ?_
      refine g_bipush X dJ6_getChars_ba4f3_23 (v := (-100 : Int32)) (by decide) ?_
      refine g_top (y := -nI 100) (by decide) ?_
      refine g_icmp_gt X (tgt := 72) dJ6_getChars_ba4f3_25 (by decide) (fun _ => ?_) (fun h9 => absurd ((sb_nlt (by omega) (by omega)).mpr (by omega)) h9)
      refine g_aload_n X dJ6_getChars_ba4f3_72 rfl 4 rfl ?_
      refine g_iinc X dJ6_getChars_ba4f3_73 2 rfl (v := nI n9) (sb_m1 (p := n9 + 1) (by omega)) (by decide) (lv' := [(5, .int (nI n9)), (0, .int (-nI w)), (6, .int (0 : Int32)), (1, .int (nI (n9 + 1))), (2, .ref v)]) rfl ?_
      refine g_iload X dJ6_getChars_ba4f3_76 0 rfl ?_
      refine g_dOnes X lk0 dJ6_getChars_ba4f3_78 ?_
      refine g_iload_n X dJ6_getChars_ba4f3_81 rfl 1 rfl ?_
      refine g_ineg X dJ6_getChars_ba4f3_82 ?_
      refine g_top (y := nI (w)) (Int32.neg_neg) ?_
      refine g_dig0 X (nI_vin (by omega) (by omega)) dJ6_getChars_ba4f3_83 ?_
      refine g_top (y := nI (48 + w % 10)) (by rw [nq_clamp (by omega)]; rfl) ?_
      refine g_bastK X 0 1 rfl rfl (nI_vin (by omega) (by omega)) dJ6_getChars_ba4f3_84 (ws9 := [(v, .inl (cy 1, cap, .inl (upd f n9 (nI (48 + w % 10)))))]) (by rw [nq_clamp (by omega), nar_b (by omega)]; rfl) ?_
      refine g_iload_n X dJ6_getChars_ba4f3_85 rfl 1 rfl ?_
      refine g_bipush X dJ6_getChars_ba4f3_86 (v := (-9 : Int32)) (by decide) ?_
      refine g_top (y := -nI 9) (by decide) ?_
      refine g_icmp_ge X (tgt := 104) dJ6_getChars_ba4f3_88 (by decide) (fun _ => ?_) (fun h9 => absurd ((sb_nle (by omega) (by omega)).mpr (by omega)) h9)
      refine g_iload X dJ6_getChars_ba4f3_104 2 rfl ?_
      refine g_if_eq X (tgt := 118) dJ6_getChars_ba4f3_106 (by decide) (fun _ => ?_) (fun h9 => absurd (rfl) h9)
      refine g_iload X dJ6_getChars_ba4f3_118 0 rfl ?_
      exact g_iret (Wf := fun w9 : va_W => w9) (u := [(v, .inl (cy 1, cap, .inl (upd f n9 (nI (48 + w % 10)))))]) X (⟨rfl, _, rfl, sb_fitU hf (fit_b (by omega)), (fun j hj => by rw [upd_n _ _ (by omega)]), gch1 hd h1⟩) dJ6_getChars_ba4f3_120
    · have hd : sb_dg w = 2 := by unfold sb_dg; rw [if_neg (by omega), if_pos (by omega)]
      rw [hd]; rw [hd] at hcp
      refine g_iload_n X dJ6_getChars_ba4f3_0 rfl 1 rfl ?_
      refine g_istore X dJ6_getChars_ba4f3_1 (by decide) (lv' := [(5, .int (nI (n9 + 2))), (0, .int (nI w)), (1, .int (nI (n9 + 2))), (2, .ref v)]) rfl ?_
      refine g_iload_n X dJ6_getChars_ba4f3_3 rfl 1 rfl ?_
      refine g_if_ge X (tgt := 11) dJ6_getChars_ba4f3_4 (by decide) (fun _ => ?_) (fun h9 => absurd (by rw [nz0, nq_le (by omega) (by omega)]; omega) h9)
      refine g_iconst X dJ6_getChars_ba4f3_11 (v := (0 : Int32)) (by decide) ?_
      refine g_istore X dJ6_getChars_ba4f3_12 (by decide) (lv' := [(6, .int (0 : Int32)), (5, .int (nI (n9 + 2))), (0, .int (nI w)), (1, .int (nI (n9 + 2))), (2, .ref v)]) rfl ?_
      refine g_iload X dJ6_getChars_ba4f3_14 0 rfl ?_
      refine g_if_ne X (tgt := 22) dJ6_getChars_ba4f3_16 (by decide) (fun h9 => absurd (rfl) h9) (fun _ => ?_)
      refine g_iload_n X dJ6_getChars_ba4f3_19 rfl 2 rfl ?_
      refine g_ineg X dJ6_getChars_ba4f3_20 ?_
      refine g_top (y := -nI w) (rfl) ?_
      refine g_istore_n X dJ6_getChars_ba4f3_21 rfl (by decide) (lv' := [(0, .int (-nI w)), (6, .int (0 : Int32)), (5, .int (nI (n9 + 2))), (1, .int (nI (n9 + 2))), (2, .ref v)]) rfl ?_
      refine g_iload_n X dJ6_getChars_ba4f3_22 rfl 0 rfl ?_
      refine g_bipush X dJ6_getChars_ba4f3_23 (v := (-100 : Int32)) (by decide) ?_
      refine g_top (y := -nI 100) (by decide) ?_
      refine g_icmp_gt X (tgt := 72) dJ6_getChars_ba4f3_25 (by decide) (fun _ => ?_) (fun h9 => absurd ((sb_nlt (by omega) (by omega)).mpr (by omega)) h9)
      refine g_aload_n X dJ6_getChars_ba4f3_72 rfl 4 rfl ?_
      refine g_iinc X dJ6_getChars_ba4f3_73 2 rfl (v := nI (n9 + 1)) (sb_m1 (p := n9 + 1 + 1) (by omega)) (by decide) (lv' := [(5, .int (nI (n9 + 1))), (0, .int (-nI w)), (6, .int (0 : Int32)), (1, .int (nI (n9 + 2))), (2, .ref v)]) rfl ?_
      refine g_iload X dJ6_getChars_ba4f3_76 0 rfl ?_
      refine g_dOnes X lk0 dJ6_getChars_ba4f3_78 ?_
      refine g_iload_n X dJ6_getChars_ba4f3_81 rfl 1 rfl ?_
      refine g_ineg X dJ6_getChars_ba4f3_82 ?_
      refine g_top (y := nI (w)) (Int32.neg_neg) ?_
      refine g_dig0 X (nI_vin (by omega) (by omega)) dJ6_getChars_ba4f3_83 ?_
      refine g_top (y := nI (48 + w % 10)) (by rw [nq_clamp (by omega)]; rfl) ?_
      refine g_bastK X 0 1 rfl rfl (nI_vin (by omega) (by omega)) dJ6_getChars_ba4f3_84 (ws9 := [(v, .inl (cy 1, cap, .inl (upd f (n9 + 1) (nI (48 + w % 10)))))]) (by rw [nq_clamp (by omega), nar_b (by omega)]; rfl) ?_
      refine g_iload_n X dJ6_getChars_ba4f3_85 rfl 1 rfl ?_
      refine g_bipush X dJ6_getChars_ba4f3_86 (v := (-9 : Int32)) (by decide) ?_
      refine g_top (y := -nI 9) (by decide) ?_
      refine g_icmp_ge X (tgt := 104) dJ6_getChars_ba4f3_88 (by decide) (fun h9 => absurd h9 (fun h8 => absurd ((sb_nle (by omega) (by omega)).mp h8) (by omega))) (fun _ => ?_)
      refine g_aload_n X dJ6_getChars_ba4f3_91 rfl 4 rfl ?_
      refine g_iinc X dJ6_getChars_ba4f3_92 0 rfl (v := nI n9) (sb_m1 (p := n9 + 1) (by omega)) (by decide) (lv' := [(5, .int (nI n9)), (0, .int (-nI w)), (6, .int (0 : Int32)), (1, .int (nI (n9 + 2))), (2, .ref v)]) rfl ?_
      refine g_iload X dJ6_getChars_ba4f3_95 0 rfl ?_
      refine g_dTens X lk1 dJ6_getChars_ba4f3_97 ?_
      refine g_iload_n X dJ6_getChars_ba4f3_100 rfl 1 rfl ?_
      refine g_ineg X dJ6_getChars_ba4f3_101 ?_
      refine g_top (y := nI w) (Int32.neg_neg) ?_
      refine g_dig1 X (nI_vin (by omega) (by omega)) dJ6_getChars_ba4f3_102 ?_
      refine g_top (y := nI (48 + w / 10)) (by rw [nq_clamp (by omega)]; rfl) ?_
      refine g_bastK X 0 1 rfl rfl (nI_vin (by omega) (by omega)) dJ6_getChars_ba4f3_103 (ws9 := [(v, .inl (cy 1, cap, .inl (upd (upd f (n9 + 1) (nI (48 + w % 10))) n9 (nI (48 + w / 10)))))]) (by rw [nq_clamp (by omega), nar_b (by omega)]; rfl) ?_
      refine g_iload X dJ6_getChars_ba4f3_104 2 rfl ?_
      refine g_if_eq X (tgt := 118) dJ6_getChars_ba4f3_106 (by decide) (fun _ => ?_) (fun h9 => absurd (rfl) h9)
      refine g_iload X dJ6_getChars_ba4f3_118 0 rfl ?_
      exact g_iret (Wf := fun w9 : va_W => w9) (u := [(v, .inl (cy 1, cap, .inl (upd (upd f (n9 + 1) (nI (48 + w % 10))) n9 (nI (48 + w / 10)))))]) X (⟨rfl, _, rfl, sb_fitU (sb_fitU hf (fit_b (by omega))) (fit_b (by omega)), (fun j hj => by rw [upd_n _ _ (by omega), upd_n _ _ (by omega)]), gch2 hd h1⟩) dJ6_getChars_ba4f3_120
    · have hd : sb_dg w = 3 := by unfold sb_dg; rw [if_neg (by omega), if_neg (by omega), if_pos (by omega)]
      rw [hd]; rw [hd] at hcp
      refine g_iload_n X dJ6_getChars_ba4f3_0 rfl 1 rfl ?_
      refine g_istore X dJ6_getChars_ba4f3_1 (by decide) (lv' := [(5, .int (nI (n9 + 3))), (0, .int (nI w)), (1, .int (nI (n9 + 3))), (2, .ref v)]) rfl ?_
      refine g_iload_n X dJ6_getChars_ba4f3_3 rfl 1 rfl ?_
      refine g_if_ge X (tgt := 11) dJ6_getChars_ba4f3_4 (by decide) (fun _ => ?_) (fun h9 => absurd (by rw [nz0, nq_le (by omega) (by omega)]; omega) h9)
      refine g_iconst X dJ6_getChars_ba4f3_11 (v := (0 : Int32)) (by decide) ?_
      refine g_istore X dJ6_getChars_ba4f3_12 (by decide) (lv' := [(6, .int (0 : Int32)), (5, .int (nI (n9 + 3))), (0, .int (nI w)), (1, .int (nI (n9 + 3))), (2, .ref v)]) rfl ?_
      refine g_iload X dJ6_getChars_ba4f3_14 0 rfl ?_
      refine g_if_ne X (tgt := 22) dJ6_getChars_ba4f3_16 (by decide) (fun h9 => absurd (rfl) h9) (fun _ => ?_)
      refine g_iload_n X dJ6_getChars_ba4f3_19 rfl 2 rfl ?_
      refine g_ineg X dJ6_getChars_ba4f3_20 ?_
      refine g_top (y := -nI w) (rfl) ?_
      refine g_istore_n X dJ6_getChars_ba4f3_21 rfl (by decide) (lv' := [(0, .int (-nI w)), (6, .int (0 : Int32)), (5, .int (nI (n9 + 3))), (1, .int (nI (n9 + 3))), (2, .ref v)]) rfl ?_
      refine g_iload_n X dJ6_getChars_ba4f3_22 rfl 0 rfl ?_
      refine g_bipush X dJ6_getChars_ba4f3_23 (v := (-100 : Int32)) (by decide) ?_
      refine g_top (y := -nI 100) (by decide) ?_
      refine g_icmp_gt X (tgt := 72) dJ6_getChars_ba4f3_25 (by decide) (fun h9 => absurd h9 (fun h8 => absurd ((sb_nlt (by omega) (by omega)).mp h8) (by omega))) (fun _ => ?_)
      refine g_iload_n X dJ6_getChars_ba4f3_28 rfl 0 rfl ?_
      refine g_bipush X dJ6_getChars_ba4f3_29 (v := (100 : Int32)) (by decide) ?_
      refine g_idiv X dJ6_getChars_ba4f3_31 (by decide) ?_
      refine g_top (y := -nI (w / 100)) (sb_ndiv (by omega)) ?_
      refine g_istore_n X dJ6_getChars_ba4f3_32 rfl (by decide) (lv' := [(3, .int (-nI (w / 100))), (0, .int (-nI w)), (6, .int (0 : Int32)), (5, .int (nI (n9 + 3))), (1, .int (nI (n9 + 3))), (2, .ref v)]) rfl ?_
      refine g_iload_n X dJ6_getChars_ba4f3_33 rfl 0 rfl ?_
      refine g_bipush X dJ6_getChars_ba4f3_34 (v := (100 : Int32)) (by decide) ?_
      refine g_imul X dJ6_getChars_ba4f3_36 ?_
      refine g_iload_n X dJ6_getChars_ba4f3_37 rfl 1 rfl ?_
      refine g_isub X dJ6_getChars_ba4f3_38 ?_
      refine g_top (y := nI (w % 100)) (sb_nrem (by omega)) ?_
      refine g_istore X dJ6_getChars_ba4f3_39 (by decide) (lv' := [(4, .int (nI (w % 100))), (3, .int (-nI (w / 100))), (0, .int (-nI w)), (6, .int (0 : Int32)), (5, .int (nI (n9 + 3))), (1, .int (nI (n9 + 3))), (2, .ref v)]) rfl ?_
      refine g_iload_n X dJ6_getChars_ba4f3_41 rfl 1 rfl ?_
      refine g_istore_n X dJ6_getChars_ba4f3_42 rfl (by decide) (lv' := [(0, .int (-nI (w / 100))), (4, .int (nI (w % 100))), (3, .int (-nI (w / 100))), (6, .int (0 : Int32)), (5, .int (nI (n9 + 3))), (1, .int (nI (n9 + 3))), (2, .ref v)]) rfl ?_
      refine g_aload_n X dJ6_getChars_ba4f3_43 rfl 6 rfl ?_
      refine g_iinc X dJ6_getChars_ba4f3_44 4 rfl (v := nI (n9 + 2)) (sb_m1 (p := n9 + 2 + 1) (by omega)) (by decide) (lv' := [(5, .int (nI (n9 + 2))), (0, .int (-nI (w / 100))), (4, .int (nI (w % 100))), (3, .int (-nI (w / 100))), (6, .int (0 : Int32)), (1, .int (nI (n9 + 3))), (2, .ref v)]) rfl ?_
      refine g_iload X dJ6_getChars_ba4f3_47 0 rfl ?_
      refine g_dOnes X lk0 dJ6_getChars_ba4f3_49 ?_
      refine g_iload X dJ6_getChars_ba4f3_52 2 rfl ?_
      refine g_dig0 X (nI_vin (by omega) (by omega)) dJ6_getChars_ba4f3_54 ?_
      refine g_top (y := nI (48 + w % 100 % 10)) (by rw [nq_clamp (by omega)]; rfl) ?_
      refine g_bastK X 0 1 rfl rfl (nI_vin (by omega) (by omega)) dJ6_getChars_ba4f3_55 (ws9 := [(v, .inl (cy 1, cap, .inl (upd f (n9 + 2) (nI (48 + w % 100 % 10)))))]) (by rw [nq_clamp (by omega), nar_b (by omega)]; rfl) ?_
      refine g_aload_n X dJ6_getChars_ba4f3_56 rfl 6 rfl ?_
      refine g_iinc X dJ6_getChars_ba4f3_57 0 rfl (v := nI (n9 + 1)) (sb_m1 (p := n9 + 1 + 1) (by omega)) (by decide) (lv' := [(5, .int (nI (n9 + 1))), (0, .int (-nI (w / 100))), (4, .int (nI (w % 100))), (3, .int (-nI (w / 100))), (6, .int (0 : Int32)), (1, .int (nI (n9 + 3))), (2, .ref v)]) rfl ?_
      refine g_iload X dJ6_getChars_ba4f3_60 0 rfl ?_
      refine g_dTens X lk1 dJ6_getChars_ba4f3_62 ?_
      refine g_iload X dJ6_getChars_ba4f3_65 2 rfl ?_
      refine g_dig1 X (nI_vin (by omega) (by omega)) dJ6_getChars_ba4f3_67 ?_
      refine g_top (y := nI (48 + w % 100 / 10)) (by rw [nq_clamp (by omega)]; rfl) ?_
      refine g_bastK X 0 1 rfl rfl (nI_vin (by omega) (by omega)) dJ6_getChars_ba4f3_68 (ws9 := [(v, .inl (cy 1, cap, .inl (upd (upd f (n9 + 2) (nI (48 + w % 100 % 10))) (n9 + 1) (nI (48 + w % 100 / 10)))))]) (by rw [nq_clamp (by omega), nar_b (by omega)]; rfl) ?_
      refine g_goto X (tgt := 22) dJ6_getChars_ba4f3_69 (by decide) ?_
      refine g_iload_n X dJ6_getChars_ba4f3_22 rfl 1 rfl ?_
      refine g_bipush X dJ6_getChars_ba4f3_23 (v := (-100 : Int32)) (by decide) ?_
      refine g_top (y := -nI 100) (by decide) ?_
      refine g_icmp_gt X (tgt := 72) dJ6_getChars_ba4f3_25 (by decide) (fun _ => ?_) (fun h9 => absurd ((sb_nlt (by omega) (by omega)).mpr (by omega)) h9)
      refine g_aload_n X dJ6_getChars_ba4f3_72 rfl 6 rfl ?_
      refine g_iinc X dJ6_getChars_ba4f3_73 0 rfl (v := nI n9) (sb_m1 (p := n9 + 1) (by omega)) (by decide) (lv' := [(5, .int (nI n9)), (0, .int (-nI (w / 100))), (4, .int (nI (w % 100))), (3, .int (-nI (w / 100))), (6, .int (0 : Int32)), (1, .int (nI (n9 + 3))), (2, .ref v)]) rfl ?_
      refine g_iload X dJ6_getChars_ba4f3_76 0 rfl ?_
      refine g_dOnes X lk0 dJ6_getChars_ba4f3_78 ?_
      refine g_iload_n X dJ6_getChars_ba4f3_81 rfl 1 rfl ?_
      refine g_ineg X dJ6_getChars_ba4f3_82 ?_
      refine g_top (y := nI (w / 100)) (Int32.neg_neg) ?_
      refine g_dig0 X (nI_vin (by omega) (by omega)) dJ6_getChars_ba4f3_83 ?_
      refine g_top (y := nI (48 + w / 100 % 10)) (by rw [nq_clamp (by omega)]; rfl) ?_
      refine g_bastK X 0 1 rfl rfl (nI_vin (by omega) (by omega)) dJ6_getChars_ba4f3_84 (ws9 := [(v, .inl (cy 1, cap, .inl (upd (upd (upd f (n9 + 2) (nI (48 + w % 100 % 10))) (n9 + 1) (nI (48 + w % 100 / 10))) n9 (nI (48 + w / 100 % 10)))))]) (by rw [nq_clamp (by omega), nar_b (by omega)]; rfl) ?_
      refine g_iload_n X dJ6_getChars_ba4f3_85 rfl 1 rfl ?_
      refine g_bipush X dJ6_getChars_ba4f3_86 (v := (-9 : Int32)) (by decide) ?_
      refine g_top (y := -nI 9) (by decide) ?_
      refine g_icmp_ge X (tgt := 104) dJ6_getChars_ba4f3_88 (by decide) (fun _ => ?_) (fun h9 => absurd ((sb_nle (by omega) (by omega)).mpr (by omega)) h9)
      refine g_iload X dJ6_getChars_ba4f3_104 4 rfl ?_
      refine g_if_eq X (tgt := 118) dJ6_getChars_ba4f3_106 (by decide) (fun _ => ?_) (fun h9 => absurd (rfl) h9)
      refine g_iload X dJ6_getChars_ba4f3_118 0 rfl ?_
      exact g_iret (Wf := fun w9 : va_W => w9) (u := [(v, .inl (cy 1, cap, .inl (upd (upd (upd f (n9 + 2) (nI (48 + w % 100 % 10))) (n9 + 1) (nI (48 + w % 100 / 10))) n9 (nI (48 + w / 100 % 10)))))]) X (⟨rfl, _, rfl, sb_fitU (sb_fitU (sb_fitU hf (fit_b (by omega))) (fit_b (by omega))) (fit_b (by omega)), (fun j hj => by rw [upd_n _ _ (by omega), upd_n _ _ (by omega), upd_n _ _ (by omega)]), gch3 hd h1⟩) dJ6_getChars_ba4f3_120
  exact K0
abbrev rmS_iapp : Room := { frames := 4, cells := 1, slots := 262, locals := 124 }
set_option maxHeartbeats 4000000 in
set_option maxRecDepth 100000 in
theorem t_iapp {q v cap n9 w : Nat} {ml : Int32} {f : Nat → Int32} (hw : w < 1000) (hcap : cap ≤ 262) (hn : n9 ≤ cap) (hm : n9 + sb_dg w ≤ 130) (hf : sb_Fit f) : cQ (ZI aK aO aS aV aT bS bV dA) D (cyT cy) l yJ5_append_c97b9 wsJ5_append_c97b9 rmS_iapp [(q, .inr (1, [.ref v, .int 0, .int ml, .int (nI n9)])), (v, .inl (cy 1, cap, .inl f))] [.ref q, .int (nI w)] (fun r9 u9 => r9 = some q ∧ ∃ (v9 c9 : Nat) (f9 : Nat → Int32), u9 = [(q, .inr (1, [.ref v9, .int 0, .int ml, .int (nI (n9 + sb_dg w))])), (v9, .inl (cy 1, c9, .inl f9))] ∧ c9 ≤ 262 ∧ n9 + sb_dg w ≤ c9 ∧ sb_Fit f9 ∧ (∀ j, j < n9 → f9 j = f j) ∧ ∀ j, j < sb_dg w → f9 (n9 + j) = sb_b (sb_dec w j)) 1 262 := by
  refine cQ_of (cc := cJ5_append_c97b9) (maxL := 4) (ret := (some (.object "java/lang/AbstractStringBuilder"))) (by decide) rfl (Nat.le_of_ble_eq_true rfl) (fun p e s m args below meth c B X hnm => ?_)
  have lk0 : Cond.fieldLink RJ5 79 "java/lang/AbstractStringBuilder" "count" "I" ∈ wsJ5_append_c97b9 := by decide +kernel
  have lk1 : ∀ w ∈ wsJ40, w ∈ wsJ5_append_c97b9 := by decide +kernel
  have lk2 : Cond.fieldLink RJ5 15 "java/lang/AbstractStringBuilder" "value" "[B" ∈ wsJ5_append_c97b9 := by decide +kernel
  have K0 : gG p l e rmS_iapp s m args below meth c D (cyT cy) B 4 (MQ below (va_Qq (fun r9 u9 => r9 = some q ∧ ∃ (v9 c9 : Nat) (f9 : Nat → Int32), u9 = [(q, .inr (1, [.ref v9, .int 0, .int ml, .int (nI (n9 + sb_dg w))])), (v9, .inl (cy 1, c9, .inl f9))] ∧ c9 ≤ 262 ∧ n9 + sb_dg w ≤ c9 ∧ sb_Fit f9 ∧ (∀ j, j < n9 → f9 j = f j) ∧ ∀ j, j < sb_dg w → f9 (n9 + j) = sb_b (sb_dec w j)) (gAt D (cyT cy) (fun w9 : va_W => w9) B) B) args s 1 262 B) [(q, .inr (1, [.ref v, .int 0, .int ml, .int (nI n9)])), (v, .inl (cy 1, cap, .inl f))] 0 0 0 [(0, .ref q), (1, .int (nI w))] [] := by
    have hin := cap_in hcap hm
    have hge := sb_cap_gem (n9 + sb_dg w) cap
    have hge2 := sb_cap_ge (n9 + sb_dg w) cap
    · refine g_aload_n X dJ5_append_c97b9_0 rfl 0 rfl ?_
      refine g_getK X 0 rfl lk1 rfl 3 (by decide) lk0 (fun _ h9 => h9) rfl dJ5_append_c97b9_1 ?_
      refine g_istore_n X dJ5_append_c97b9_4 rfl (by decide) (lv' := [(2, .int (nI n9)), (0, .ref q), (1, .int (nI w))]) rfl ?_
      refine g_iload_n X dJ5_append_c97b9_5 rfl 0 rfl ?_
      refine g_iload_n X dJ5_append_c97b9_6 rfl 2 rfl ?_
      refine w_afterI (W1 := []) (w := [(q, .inr (1, [.ref v, .int 0, .int ml, .int (nI n9)])), (v, .inl (cy 1, cap, .inl f))]) (wc := []) (wr := [(q, .inr (1, [.ref v, .int 0, .int ml, .int (nI n9)])), (v, .inl (cy 1, cap, .inl f))]) X (ZI_ok _ _ _ _ _ _ _ _) [] [0, 1] rfl rfl rfl rfl (by decide) (hM := (t_ssz (l := l) (D := D) (cy := cy) (aK := aK) (aO := aO) (aS := aS) (aV := aV) (aT := aT) (bS := bS) (bV := bV) (dA := dA) (w := w) hw)) (st := [.int (nI n9)]) (mcq := 0) (msq := 0) (a9 := ([.int (nI w)] : List Value).toArray) (fun H locs ls hP hD hSs hl0 => ?_) ?_
      · exact va_runS (As := [.int (nI w)]) X.1 ((t_ssz (l := l) (D := D) (cy := cy) (aK := aK) (aO := aO) (aS := aS) (aV := aV) (aT := aT) (bS := bS) (bV := bV) (dA := dA) (w := w) hw) H.size) (va_cwS 1 X.1.2.2.2.2 gJ5_append_c97b9_J6_stringSize_0f7a4 rfl rfl rfl (by decide +kernel) ⟨Nat.le_of_ble_eq_true rfl, Nat.le_of_ble_eq_true rfl⟩) ⟨gPre_blind (ZI_ok _ _ _ _ _ _ _ _), (gPre_of (ZI_ok _ _ _ _ _ _ _ _) X.2.1 X.2.2.1 X.2.2.2.1 hP hD hSs).2⟩ rfl rfl hl0.1 rfl (lv_room (Nat.le_of_ble_eq_true rfl)) dJ5_append_c97b9_7 ⟨by show 0 + 0 ≤ 1; omega, by show 0 + 0 ≤ 262; omega⟩
      rintro r9 u9 ⟨rfl, rfl⟩
      refine g_weq (ws9 := [(q, .inr (1, [.ref v, .int 0, .int ml, .int (nI n9)])), (v, .inl (cy 1, cap, .inl f))]) rfl ?_
      refine g_iadd X dJ5_append_c97b9_10 ?_
      refine g_top (y := nI (n9 + sb_dg w)) (nq_add n9 (sb_dg w)) ?_
      refine g_istore_n X dJ5_append_c97b9_11 rfl (by decide) (lv' := [(3, .int (nI (n9 + sb_dg w))), (2, .int (nI n9)), (0, .ref q), (1, .int (nI w))]) rfl ?_
      refine g_aload_n X dJ5_append_c97b9_12 rfl 2 rfl ?_
      refine g_iload_n X dJ5_append_c97b9_13 rfl 0 rfl ?_
      refine w_afterV (W1 := []) (w := [(q, .inr (1, [.ref v, .int 0, .int ml, .int (nI n9)])), (v, .inl (cy 1, cap, .inl f))]) (wc := [(q, .inr (1, [.ref v, .int 0, .int ml, .int (nI n9)])), (v, .inl (cy 1, cap, .inl f))]) (wr := []) X (ZI_ok _ _ _ _ _ _ _ _) [0, 1] [] rfl rfl rfl rfl (by decide) (hM := (t_ensC (l := l) (D := D) (cy := cy) (aK := aK) (aO := aO) (aS := aS) (aV := aV) (aT := aT) (bS := bS) (bV := bV) (dA := dA) (q := q) (v := v) (cap := cap) (m9 := (n9 + sb_dg w)) (ml := ml) (n := (nI n9)) (f := f) hcap hm hf)) (st := []) (mcq := 1) (msq := 262) (a9 := ([.ref q, .int (nI (n9 + sb_dg w))] : List Value).toArray) (fun H locs ls hP hD hSs hl0 => ?_) ?_
      · exact va_runU (As := [.int (nI (n9 + sb_dg w))]) X.1 ((t_ensC (l := l) (D := D) (cy := cy) (aK := aK) (aO := aO) (aS := aS) (aV := aV) (aT := aT) (bS := bS) (bV := bV) (dA := dA) (q := q) (v := v) (cap := cap) (m9 := (n9 + sb_dg w)) (ml := ml) (n := (nI n9)) (f := f) hcap hm hf) H.size) (va_cwU 1 X.1.2.2.2.2 gJ5_append_c97b9_J5_ensureCapacityInternal_d00df_u100J4 rfl rfl rfl rfl (by decide +kernel) ⟨Nat.le_of_ble_eq_true rfl, Nat.le_of_ble_eq_true rfl⟩) ⟨gPre_blind (ZI_ok _ _ _ _ _ _ _ _), va_recv (q0 := 0) X.2.1 hP rfl rfl, (gPre_of (ZI_ok _ _ _ _ _ _ _ _) X.2.1 X.2.2.1 X.2.2.2.1 hP hD hSs).2⟩ rfl rfl hl0.1 rfl (lv_room (Nat.le_of_ble_eq_true rfl)) dJ5_append_c97b9_14 ⟨by show 0 + 1 ≤ 1; omega, by show 0 + 262 ≤ 262; omega⟩
      rintro u9 ⟨v8, f8, rfl, hf8, hk8⟩
      refine g_weq (ws9 := [(q, .inr (1, [.ref v8, .int 0, .int ml, .int (nI n9)])), (v8, .inl (cy 1, (sb_cap (n9 + sb_dg w) cap), .inl f8))]) rfl ?_
      refine g_aload_n X dJ5_append_c97b9_17 rfl 2 rfl ?_
      refine w_afterI (W1 := []) (w := [(q, .inr (1, [.ref v8, .int 0, .int ml, .int (nI n9)])), (v8, .inl (cy 1, (sb_cap (n9 + sb_dg w) cap), .inl f8))]) (wc := [(q, .inr (1, [.ref v8, .int 0, .int ml, .int (nI n9)]))]) (wr := [(v8, .inl (cy 1, (sb_cap (n9 + sb_dg w) cap), .inl f8))]) X (ZI_ok _ _ _ _ _ _ _ _) [0] [1] rfl rfl rfl rfl (by decide) (hM := (t_isL (l := l) (D := D) (cy := cy) (aK := aK) (aO := aO) (aS := aS) (aV := aV) (aT := aT) (bS := bS) (bV := bV) (dA := dA) (q := q) (v := v8) (ml := ml) (n := (nI n9)))) (st := []) (mcq := 0) (msq := 0) (a9 := ([.ref q] : List Value).toArray) (fun H locs ls hP hD hSs hl0 => ?_) ?_
      · exact va_runU (As := []) X.1 ((t_isL (l := l) (D := D) (cy := cy) (aK := aK) (aO := aO) (aS := aS) (aV := aV) (aT := aT) (bS := bS) (bV := bV) (dA := dA) (q := q) (v := v8) (ml := ml) (n := (nI n9))) H.size) (va_cwU 0 X.1.2.2.2.2 gJ5_append_c97b9_J5_isLatin1_aae02_u83J4 rfl rfl rfl rfl (by decide +kernel) ⟨Nat.le_of_ble_eq_true rfl, Nat.le_of_ble_eq_true rfl⟩) ⟨gPre_blind (ZI_ok _ _ _ _ _ _ _ _), va_recv (q0 := 0) X.2.1 hP rfl rfl, (gPre_of (ZI_ok _ _ _ _ _ _ _ _) X.2.1 X.2.2.1 X.2.2.2.1 hP hD hSs).2⟩ rfl rfl hl0.1 rfl (lv_room (Nat.le_of_ble_eq_true rfl)) dJ5_append_c97b9_18 ⟨by show 1 + 0 ≤ 1; omega, by show 0 + 262 + 0 ≤ 262; omega⟩
      rintro r9 u9 ⟨rfl, rfl⟩
      refine g_weq (ws9 := [(v8, .inl (cy 1, (sb_cap (n9 + sb_dg w) cap), .inl f8)), (q, .inr (1, [.ref v8, .int 0, .int ml, .int (nI n9)]))]) rfl ?_
      refine g_if_eq X (tgt := 37) dJ5_append_c97b9_21 (by decide) (fun h9 => absurd h9 (by decide)) (fun _ => ?_)
      refine g_iload_n X dJ5_append_c97b9_24 rfl 3 rfl ?_
      refine g_iload_n X dJ5_append_c97b9_25 rfl 0 rfl ?_
      refine g_aload_n X dJ5_append_c97b9_26 rfl 2 rfl ?_
      refine g_getK X 1 rfl lk1 rfl 0 (by decide) lk2 (fun _ h9 => h9) rfl dJ5_append_c97b9_27 ?_
      refine w_afterI (W1 := []) (w := [(v8, .inl (cy 1, (sb_cap (n9 + sb_dg w) cap), .inl f8)), (q, .inr (1, [.ref v8, .int 0, .int ml, .int (nI n9)]))]) (wc := [(v8, .inl (cy 1, (sb_cap (n9 + sb_dg w) cap), .inl f8))]) (wr := [(q, .inr (1, [.ref v8, .int 0, .int ml, .int (nI n9)]))]) X (ZI_ok _ _ _ _ _ _ _ _) [0] [1] rfl rfl rfl rfl (by decide) (hM := (t_gch (l := l) (D := D) (cy := cy) (aK := aK) (aO := aO) (aS := aS) (aV := aV) (aT := aT) (bS := bS) (bV := bV) (dA := dA) (v := v8) (cap := (sb_cap (n9 + sb_dg w) cap)) (n9 := n9) (w := w) (f := f8) hw hge2 hin hf8)) (st := []) (mcq := 0) (msq := 0) (a9 := ([.int (nI w), .int (nI (n9 + sb_dg w)), .ref v8] : List Value).toArray) (fun H locs ls hP hD hSs hl0 => ?_) ?_
      · exact va_runS (As := [.int (nI w), .int (nI (n9 + sb_dg w)), .ref v8]) X.1 ((t_gch (l := l) (D := D) (cy := cy) (aK := aK) (aO := aO) (aS := aS) (aV := aV) (aT := aT) (bS := bS) (bV := bV) (dA := dA) (v := v8) (cap := (sb_cap (n9 + sb_dg w) cap)) (n9 := n9) (w := w) (f := f8) hw hge2 hin hf8) H.size) (va_cwS 3 X.1.2.2.2.2 gJ5_append_c97b9_J6_getChars_ba4f3 rfl rfl rfl (by decide +kernel) ⟨Nat.le_of_ble_eq_true rfl, Nat.le_of_ble_eq_true rfl⟩) ⟨gPre_blind (ZI_ok _ _ _ _ _ _ _ _), (gPre_of (ZI_ok _ _ _ _ _ _ _ _) X.2.1 X.2.2.1 X.2.2.2.1 hP hD hSs).2⟩ rfl rfl hl0.1 rfl (lv_room (Nat.le_of_ble_eq_true rfl)) dJ5_append_c97b9_30 ⟨by show 1 + 0 ≤ 1; omega, by show 0 + 262 + 0 ≤ 262; omega⟩
      rintro r9 u9 ⟨rfl, f7, rfl, hf7, hk7, hd7⟩
      refine g_weq (ws9 := [(q, .inr (1, [.ref v8, .int 0, .int ml, .int (nI n9)])), (v8, .inl (cy 1, (sb_cap (n9 + sb_dg w) cap), .inl f7))]) rfl ?_
      refine g_pop X dJ5_append_c97b9_33 rfl ?_
      refine g_goto X (tgt := 48) dJ5_append_c97b9_34 (by decide) ?_
      refine g_aload_n X dJ5_append_c97b9_48 rfl 2 rfl ?_
      refine g_iload_n X dJ5_append_c97b9_49 rfl 0 rfl ?_
      refine g_putK X 0 rfl lk1 rfl tyJ4 tyJ4_ok nmJ4 3 (by decide) lk0 (fun _ h9 => h9) rfl (ty := .int) (v := .int (nI (n9 + sb_dg w))) (by decide +kernel) rfl rfl (Nat.le_of_ble_eq_true rfl) dJ5_append_c97b9_50 (ws9 := [(q, .inr (1, [.ref v8, .int 0, .int ml, .int (nI (n9 + sb_dg w))])), (v8, .inl (cy 1, (sb_cap (n9 + sb_dg w) cap), .inl f7))]) rfl ?_
      refine g_aload_n X dJ5_append_c97b9_53 rfl 2 rfl ?_
      refine g_wid (k' := 1) (n' := 262) (by omega) (by omega) ?_
      exact g_aret (Wf := fun w9 : va_W => w9) (u := [(q, .inr (1, [.ref v8, .int 0, .int ml, .int (nI (n9 + sb_dg w))])), (v8, .inl (cy 1, (sb_cap (n9 + sb_dg w) cap), .inl f7))]) X (Or.inl ⟨_, rfl⟩) (⟨rfl, _, _, _, rfl, hin, hge2, hf7, (fun j hj => (hk7 j hj).trans (hk8 j (by omega))), hd7⟩) dJ5_append_c97b9_54
  exact K0
abbrev rmS_bint : Room := { frames := 5, cells := 1, slots := 262, locals := 147 }
set_option maxHeartbeats 4000000 in
set_option maxRecDepth 100000 in
theorem t_bint {q v cap n9 w : Nat} {ml : Int32} {f : Nat → Int32} (hw : w < 1000) (hcap : cap ≤ 262) (hn : n9 ≤ cap) (hm : n9 + sb_dg w ≤ 130) (hf : sb_Fit f) : cQ (ZI aK aO aS aV aT bS bV dA) D (cyT cy) l yJ4_append_bf812 wsJ4_append_bf812 rmS_bint [(q, .inr (1, [.ref v, .int 0, .int ml, .int (nI n9)])), (v, .inl (cy 1, cap, .inl f))] [.ref q, .int (nI w)] (fun r9 u9 => r9 = some q ∧ ∃ (v9 c9 : Nat) (f9 : Nat → Int32), u9 = [(q, .inr (1, [.ref v9, .int 0, .int ml, .int (nI (n9 + sb_dg w))])), (v9, .inl (cy 1, c9, .inl f9))] ∧ c9 ≤ 262 ∧ n9 + sb_dg w ≤ c9 ∧ sb_Fit f9 ∧ (∀ j, j < n9 → f9 j = f j) ∧ ∀ j, j < sb_dg w → f9 (n9 + j) = sb_b (sb_dec w j)) 1 262 := by
  refine cQ_of (cc := cJ4_append_bf812) (maxL := 2) (ret := (some (.object "java/lang/StringBuilder"))) (by decide) rfl (Nat.le_of_ble_eq_true rfl) (fun p e s m args below meth c B X hnm => ?_)
  have K0 : gG p l e rmS_bint s m args below meth c D (cyT cy) B 2 (MQ below (va_Qq (fun r9 u9 => r9 = some q ∧ ∃ (v9 c9 : Nat) (f9 : Nat → Int32), u9 = [(q, .inr (1, [.ref v9, .int 0, .int ml, .int (nI (n9 + sb_dg w))])), (v9, .inl (cy 1, c9, .inl f9))] ∧ c9 ≤ 262 ∧ n9 + sb_dg w ≤ c9 ∧ sb_Fit f9 ∧ (∀ j, j < n9 → f9 j = f j) ∧ ∀ j, j < sb_dg w → f9 (n9 + j) = sb_b (sb_dec w j)) (gAt D (cyT cy) (fun w9 : va_W => w9) B) B) args s 1 262 B) [(q, .inr (1, [.ref v, .int 0, .int ml, .int (nI n9)])), (v, .inl (cy 1, cap, .inl f))] 0 0 0 [(0, .ref q), (1, .int (nI w))] [] := by
    refine g_aload_n X dJ4_append_bf812_0 rfl 0 rfl ?_
    refine g_iload_n X dJ4_append_bf812_1 rfl 1 rfl ?_
    refine w_afterQ (W1 := []) (w := [(q, .inr (1, [.ref v, .int 0, .int ml, .int (nI n9)])), (v, .inl (cy 1, cap, .inl f))]) (wc := [(q, .inr (1, [.ref v, .int 0, .int ml, .int (nI n9)])), (v, .inl (cy 1, cap, .inl f))]) (wr := []) X (ZI_ok _ _ _ _ _ _ _ _) [0, 1] [] rfl rfl rfl rfl (by decide) (hM := (t_iapp (l := l) (D := D) (cy := cy) (aK := aK) (aO := aO) (aS := aS) (aV := aV) (aT := aT) (bS := bS) (bV := bV) (dA := dA) (q := q) (v := v) (cap := cap) (n9 := n9) (w := w) (ml := ml) (f := f) hw hcap hn hm hf)) (st := []) (mcq := 1) (msq := 262) (a9 := ([.ref q, .int (nI w)] : List Value).toArray) (fun H locs ls hP hD hSs hl0 => ?_) ?_
    · exact va_runSU (As := [.int (nI w)]) (X.2.1.1 1 _ rfl).2 X.1 ((t_iapp (l := l) (D := D) (cy := cy) (aK := aK) (aO := aO) (aS := aS) (aV := aV) (aT := aT) (bS := bS) (bV := bV) (dA := dA) (q := q) (v := v) (cap := cap) (n9 := n9) (w := w) (ml := ml) (f := f) hw hcap hn hm hf) H.size) (va_cwSU 1 X.1.2.2.2.2 gJ4_append_bf812_J5_append_c97b9_s53 rfl rfl rfl (by decide +kernel) ⟨Nat.le_of_ble_eq_true rfl, Nat.le_of_ble_eq_true rfl⟩) ⟨gPre_blind (ZI_ok _ _ _ _ _ _ _ _), va_recv (q0 := 0) X.2.1 hP rfl rfl, (gPre_of (ZI_ok _ _ _ _ _ _ _ _) X.2.1 X.2.2.1 X.2.2.2.1 hP hD hSs).2⟩ rfl rfl hl0.1 rfl (lv_room (Nat.le_of_ble_eq_true rfl)) dJ4_append_bf812_2 ⟨by show 0 + 1 ≤ 1; omega, by show 0 + 262 ≤ 262; omega⟩
    rintro r9 u9 ⟨rfl, v8, c8, f8, rfl, h8⟩
    refine g_weq (ws9 := [(q, .inr (1, [.ref v8, .int 0, .int ml, .int (nI (n9 + sb_dg w))])), (v8, .inl (cy 1, c8, .inl f8))]) rfl ?_
    refine g_pop X dJ4_append_bf812_5 rfl ?_
    refine g_aload_n X dJ4_append_bf812_6 rfl 0 rfl ?_
    refine g_wid (k' := 1) (n' := 262) (by omega) (by omega) ?_
    exact g_aret (Wf := fun w9 : va_W => w9) (u := [(q, .inr (1, [.ref v8, .int 0, .int ml, .int (nI (n9 + sb_dg w))])), (v8, .inl (cy 1, c8, .inl f8))]) X (Or.inl ⟨_, rfl⟩) (⟨rfl, v8, c8, f8, rfl, h8⟩) dJ4_append_bf812_7
  exact K0
end TM
