/-! the JDK's methods on texts: contracts over their own cells -/
theorem cap_in {cap m9 : Nat} (hcap : cap ≤ 262) (hm : m9 ≤ 130) : sb_cap m9 cap ≤ 262 := by
  unfold sb_cap
  by_cases e : m9 ≤ cap
  · rw [if_pos e]; exact hcap
  · rw [if_neg e]
    by_cases e2 : 2 * cap + 2 < m9
    · rw [if_pos e2]; omega
    · rw [if_neg e2]; omega
theorem cap_eq {cap m9 : Nat} (h : cap < m9) : cap + max (m9 - cap) (cap + 2) = sb_cap m9 cap := by
  unfold sb_cap
  rw [if_neg (by omega)]
  by_cases e2 : 2 * cap + 2 < m9
  · rw [if_pos e2, Nat.max_eq_left (by omega)]; omega
  · rw [if_neg e2, Nat.max_eq_right (by omega)]; omega
theorem cap_same {cap m9 : Nat} (h : m9 ≤ cap) : sb_cap m9 cap = cap := if_pos h
theorem cap_no {cap m9 : Nat} (h : m9 ≤ cap) (hc : cap ≤ 262) (hm : m9 ≤ 262) : nI m9 - nI cap ≤ 0 := by
  rw [Int32.le_iff_toInt_le, nz0, nq_toInt (by omega)]
  have e : nI m9 - nI cap = -(nI (cap - m9)) := by
    rw [← nq_sub h, Int32.neg_sub]
  rw [e, sb_negT (by omega)]
  omega
theorem nI_minR {b c : Nat} (hb : b < 2147483648) (hc : c < 2147483648) (h : c ≤ b) : (if nI c < nI b then nI c else nI b) = nI c := by
  by_cases e : c < b
  · rw [if_pos (by rw [nq_lt hc hb]; exact e)]
  · rw [if_neg (by rw [nq_lt hc hb]; exact e), show b = c by omega]
theorem nar_b {k : Nat} (h : k < 128) : vp_nar .byte (nI k) = nI k := (show ∀ k, k < 128 → vp_nar .byte (nI k) = nI k by decide +kernel) k h
theorem fit_b {k : Nat} (h : k < 128) : fits .byte (.int (nI k)) = true := (show ∀ k, k < 128 → fits .byte (.int (nI k)) = true by decide +kernel) k h
theorem chr_b {k : Nat} (h : k < 128) : narrow .char (.int (nI k)) = .int (nI k) := (show ∀ k, k < 128 → narrow .char (.int (nI k)) = .int (nI k) by decide +kernel) k h
theorem and_b {k : Nat} (h : k < 128) : nI k &&& 255 = nI k := (show ∀ k, k < 128 → nI k &&& 255 = nI k by decide +kernel) k h
theorem i2c_b {k : Nat} (h : k < 128) : ((nI k).toUInt32 % 65536).toInt32 = nI k := (show ∀ k, k < 128 → ((nI k).toUInt32 % 65536).toInt32 = nI k by decide +kernel) k h
theorem sb_bn {k : Nat} (h : k < 128) : sb_b k = nI k := (show ∀ k, k < 128 → sb_b k = nI k by decide +kernel) k h
theorem dec_at {w j c9 d : Nat} (hd : sb_dg w = d) (e : 48 + w / 10 ^ (d - 1 - j) % 10 = c9) (hc : c9 < 128) : nI c9 = sb_b (sb_dec w j) := by
  unfold sb_dec
  rw [hd, e, sb_bn hc]
theorem gch1 {f : Nat → Int32} {n9 w : Nat} (hd : sb_dg w = 1) (hw : w < 10) : ∀ j, j < 1 → upd f n9 (nI (48 + w % 10)) (n9 + j) = sb_b (sb_dec w j) := by
  intro j hj
  obtain rfl : j = 0 := by omega
  rw [Nat.add_zero n9, upd_e _ _ rfl]
  exact dec_at hd (by show 48 + w / 10 ^ 0 % 10 = _; rw [Nat.pow_zero, Nat.div_one]) (by omega)
theorem gch2 {f : Nat → Int32} {n9 w : Nat} (hd : sb_dg w = 2) (hw : 10 ≤ w ∧ w < 100) : ∀ j, j < 2 → upd (upd f (n9 + 1) (nI (48 + w % 10))) n9 (nI (48 + w / 10)) (n9 + j) = sb_b (sb_dec w j) := by
  intro j hj
  rcases (show j = 0 ∨ j = 1 by omega) with rfl | rfl
  · rw [Nat.add_zero n9, upd_e _ _ rfl]
    exact dec_at hd (by show 48 + w / 10 ^ 1 % 10 = _; rw [Nat.pow_one]; omega) (by omega)
  · rw [upd_n _ _ (by omega), upd_e _ _ rfl]
    exact dec_at hd (by show 48 + w / 10 ^ 0 % 10 = _; rw [Nat.pow_zero, Nat.div_one]) (by omega)
theorem gch3 {f : Nat → Int32} {n9 w : Nat} (hd : sb_dg w = 3) (hw : 100 ≤ w ∧ w < 1000) : ∀ j, j < 3 → upd (upd (upd f (n9 + 2) (nI (48 + w % 100 % 10))) (n9 + 1) (nI (48 + w % 100 / 10))) n9 (nI (48 + w / 100 % 10)) (n9 + j) = sb_b (sb_dec w j) := by
  intro j hj
  rcases (show j = 0 ∨ j = 1 ∨ j = 2 by omega) with rfl | rfl | rfl
  · rw [Nat.add_zero n9, upd_e _ _ rfl]
    exact dec_at hd (by show 48 + w / 10 ^ 2 % 10 = _; rw [show (10 : Nat) ^ 2 = 100 from rfl]) (by omega)
  · rw [upd_n _ _ (by omega), upd_e _ _ rfl]
    exact dec_at hd (by show 48 + w / 10 ^ 1 % 10 = _; rw [Nat.pow_one]; omega) (by omega)
  · rw [upd_n _ _ (by omega), upd_n _ _ (by omega), upd_e _ _ rfl]
    exact dec_at hd (by show 48 + w / 10 ^ 0 % 10 = _; rw [Nat.pow_zero, Nat.div_one]; omega) (by omega)
theorem cpy_lo {f g : Nat → Int32} {n k j : Nat} (hj : j < n) : va_cpy f g 0 n k j = g j := by
  unfold va_cpy
  rw [if_neg (by omega)]
theorem cpy_hi {f g : Nat → Int32} {n k j : Nat} (hj : j < k) : va_cpy f g 0 n k (n + j) = f j := by
  unfold va_cpy
  rw [if_pos (by omega), Nat.add_sub_cancel_left, Nat.zero_add]
section TM
variable {l : Launch} {D : va_G} {cy : Nat → ClassId} {aK aO aS aV aT bS bV dA : Nat → Nat}
abbrev rmS_isL : Room := { frames := 0, cells := 0, slots := 0, locals := 0 }
set_option maxHeartbeats 4000000 in
set_option maxRecDepth 100000 in
theorem t_isL {q v : Nat} {ml n : Int32} : cI (ZI aK aO aS aV aT bS bV dA) D (cyT cy) l yJ5_isLatin1_aae02 wsJ5_isLatin1_aae02 rmS_isL [(q, .inr (1, [.ref v, .int 0, .int ml, .int n]))] [.ref q] (fun r9 u9 => r9 = 1 ∧ u9 = [(q, .inr (1, [.ref v, .int 0, .int ml, .int n]))]) 0 0 := by
  refine cI_of (cc := cJ5_isLatin1_aae02) (maxL := 1) (ret := (some .boolean)) (by decide) rfl (Nat.le_of_ble_eq_true rfl) (fun p e s m args below meth c B X hnm => ?_)
  have lk0 : Cond.fieldLink RJ5 18 "java/lang/String" "COMPACT_STRINGS" "Z" ∈ wsJ5_isLatin1_aae02 := by decide +kernel
  have lk1 : Cond.fieldLink RJ5 22 "java/lang/AbstractStringBuilder" "coder" "B" ∈ wsJ5_isLatin1_aae02 := by decide +kernel
  have lk2 : ∀ w ∈ wsJ40, w ∈ wsJ5_isLatin1_aae02 := by decide +kernel
  have K0 : gG p l e rmS_isL s m args below meth c D (cyT cy) B 1 (MQ below (va_Qi (fun r9 u9 => r9 = 1 ∧ u9 = [(q, .inr (1, [.ref v, .int 0, .int ml, .int n]))]) (gAt D (cyT cy) (fun w9 : va_W => w9) B) B) args s 0 0 B) [(q, .inr (1, [.ref v, .int 0, .int ml, .int n]))] 0 0 0 [(0, .ref q)] [] := by
    refine g_sCS (gC_ZC X) lk0 dJ5_isLatin1_aae02_0 ?_
    refine g_if_eq X (tgt := 17) dJ5_isLatin1_aae02_3 (by decide) (fun h9 => absurd h9 (by decide)) (fun _ => ?_)
    refine g_aload_n X dJ5_isLatin1_aae02_6 rfl 0 rfl ?_
    refine g_getK X 0 rfl lk2 rfl 1 (by decide) lk1 (fun _ h9 => h9) rfl dJ5_isLatin1_aae02_7 ?_
    refine g_if_ne X (tgt := 17) dJ5_isLatin1_aae02_10 (by decide) (fun h9 => absurd (rfl) h9) (fun _ => ?_)
    refine g_iconst X dJ5_isLatin1_aae02_13 (v := (1 : Int32)) (by decide) ?_
    refine g_goto X (tgt := 18) dJ5_isLatin1_aae02_14 (by decide) ?_
    exact g_zret (Wf := fun w9 : va_W => w9) (u := [(q, .inr (1, [.ref v, .int 0, .int ml, .int n]))]) X (rfl) (⟨rfl, rfl⟩) dJ5_isLatin1_aae02_18
  exact K0
abbrev rmS_sL : Room := { frames := 0, cells := 0, slots := 0, locals := 0 }
set_option maxHeartbeats 4000000 in
set_option maxRecDepth 100000 in
theorem t_sL {q v : Nat} {h9 z9 : Int32} : cI (ZI aK aO aS aV aT bS bV dA) D (cyT cy) l yJ0_isLatin1_aae02 wsJ0_isLatin1_aae02 rmS_sL [(q, .inr (0, [.ref v, .int 0, .int h9, .int z9]))] [.ref q] (fun r9 u9 => r9 = 1 ∧ u9 = [(q, .inr (0, [.ref v, .int 0, .int h9, .int z9]))]) 0 0 := by
  refine cI_of (cc := cJ0_isLatin1_aae02) (maxL := 1) (ret := (some .boolean)) (by decide) rfl (Nat.le_of_ble_eq_true rfl) (fun p e s m args below meth c B X hnm => ?_)
  have lk0 : Cond.fieldLink RJ0 38 "java/lang/String" "COMPACT_STRINGS" "Z" ∈ wsJ0_isLatin1_aae02 := by decide +kernel
  have lk1 : Cond.fieldLink RJ0 15 "java/lang/String" "coder" "B" ∈ wsJ0_isLatin1_aae02 := by decide +kernel
  have lk2 : ∀ w ∈ wsJ00, w ∈ wsJ0_isLatin1_aae02 := by decide +kernel
  have K0 : gG p l e rmS_sL s m args below meth c D (cyT cy) B 1 (MQ below (va_Qi (fun r9 u9 => r9 = 1 ∧ u9 = [(q, .inr (0, [.ref v, .int 0, .int h9, .int z9]))]) (gAt D (cyT cy) (fun w9 : va_W => w9) B) B) args s 0 0 B) [(q, .inr (0, [.ref v, .int 0, .int h9, .int z9]))] 0 0 0 [(0, .ref q)] [] := by
    refine g_sCS (gC_ZC X) lk0 dJ0_isLatin1_aae02_0 ?_
    refine g_if_eq X (tgt := 17) dJ0_isLatin1_aae02_3 (by decide) (fun h9 => absurd h9 (by decide)) (fun _ => ?_)
    refine g_aload_n X dJ0_isLatin1_aae02_6 rfl 0 rfl ?_
    refine g_getK X 0 rfl lk2 rfl 1 (by decide) lk1 (fun _ h9 => h9) rfl dJ0_isLatin1_aae02_7 ?_
    refine g_if_ne X (tgt := 17) dJ0_isLatin1_aae02_10 (by decide) (fun h9 => absurd (rfl) h9) (fun _ => ?_)
    refine g_iconst X dJ0_isLatin1_aae02_13 (v := (1 : Int32)) (by decide) ?_
    refine g_goto X (tgt := 18) dJ0_isLatin1_aae02_14 (by decide) ?_
    exact g_zret (Wf := fun w9 : va_W => w9) (u := [(q, .inr (0, [.ref v, .int 0, .int h9, .int z9]))]) X (rfl) (⟨rfl, rfl⟩) dJ0_isLatin1_aae02_18
  exact K0
abbrev rmS_cod : Room := { frames := 0, cells := 0, slots := 0, locals := 0 }
set_option maxHeartbeats 4000000 in
set_option maxRecDepth 100000 in
theorem t_cod {q v : Nat} {h9 z9 : Int32} : cI (ZI aK aO aS aV aT bS bV dA) D (cyT cy) l yJ0_coder_7d493 wsJ0_coder_7d493 rmS_cod [(q, .inr (0, [.ref v, .int 0, .int h9, .int z9]))] [.ref q] (fun r9 u9 => r9 = 0 ∧ u9 = [(q, .inr (0, [.ref v, .int 0, .int h9, .int z9]))]) 0 0 := by
  refine cI_of (cc := cJ0_coder_7d493) (maxL := 1) (ret := (some .byte)) (by decide) rfl (Nat.le_of_ble_eq_true rfl) (fun p e s m args below meth c B X hnm => ?_)
  have lk0 : Cond.fieldLink RJ0 38 "java/lang/String" "COMPACT_STRINGS" "Z" ∈ wsJ0_coder_7d493 := by decide +kernel
  have lk1 : Cond.fieldLink RJ0 15 "java/lang/String" "coder" "B" ∈ wsJ0_coder_7d493 := by decide +kernel
  have lk2 : ∀ w ∈ wsJ00, w ∈ wsJ0_coder_7d493 := by decide +kernel
  have K0 : gG p l e rmS_cod s m args below meth c D (cyT cy) B 1 (MQ below (va_Qi (fun r9 u9 => r9 = 0 ∧ u9 = [(q, .inr (0, [.ref v, .int 0, .int h9, .int z9]))]) (gAt D (cyT cy) (fun w9 : va_W => w9) B) B) args s 0 0 B) [(q, .inr (0, [.ref v, .int 0, .int h9, .int z9]))] 0 0 0 [(0, .ref q)] [] := by
    refine g_sCS (gC_ZC X) lk0 dJ0_coder_7d493_0 ?_
    refine g_if_eq X (tgt := 13) dJ0_coder_7d493_3 (by decide) (fun h9 => absurd h9 (by decide)) (fun _ => ?_)
    refine g_aload_n X dJ0_coder_7d493_6 rfl 0 rfl ?_
    refine g_getK X 0 rfl lk2 rfl 1 (by decide) lk1 (fun _ h9 => h9) rfl dJ0_coder_7d493_7 ?_
    refine g_goto X (tgt := 14) dJ0_coder_7d493_10 (by decide) ?_
    exact g_zret (Wf := fun w9 : va_W => w9) (u := [(q, .inr (0, [.ref v, .int 0, .int h9, .int z9]))]) X (rfl) (⟨rfl, rfl⟩) dJ0_coder_7d493_14
  exact K0
abbrev rmS_codT : Room := { frames := 0, cells := 0, slots := 0, locals := 0 }
set_option maxHeartbeats 4000000 in
set_option maxRecDepth 100000 in
theorem t_codT {i : Nat} (hi : i < 11) : cI (ZI aK aO aS aV aT bS bV dA) D (cyT cy) l yJ0_coder_7d493 wsJ0_coder_7d493 rmS_codT [] [.ref (bS i)] (fun r9 u9 => r9 = 0 ∧ u9 = []) 0 0 := by
  refine cI_of (cc := cJ0_coder_7d493) (maxL := 1) (ret := (some .byte)) (by decide) rfl (Nat.le_of_ble_eq_true rfl) (fun p e s m args below meth c B X hnm => ?_)
  have lk0 : Cond.fieldLink RJ0 38 "java/lang/String" "COMPACT_STRINGS" "Z" ∈ wsJ0_coder_7d493 := by decide +kernel
  have lk1 : Cond.fieldLink RJ0 15 "java/lang/String" "coder" "B" ∈ wsJ0_coder_7d493 := by decide +kernel
  have K0 : gG p l e rmS_codT s m args below meth c D (cyT cy) B 1 (MQ below (va_Qi (fun r9 u9 => r9 = 0 ∧ u9 = []) (gAt D (cyT cy) (fun w9 : va_W => w9) B) B) args s 0 0 B) [] 0 0 0 [(0, .ref (bS i))] [] := by
    refine g_sCS (gC_ZC X) lk0 dJ0_coder_7d493_0 ?_
    refine g_if_eq X (tgt := 13) dJ0_coder_7d493_3 (by decide) (fun h9 => absurd h9 (by decide)) (fun _ => ?_)
    refine g_aload_n X dJ0_coder_7d493_6 rfl 0 rfl ?_
    refine g_tCod X hi lk1 dJ0_coder_7d493_7 ?_
    refine g_goto X (tgt := 14) dJ0_coder_7d493_10 (by decide) ?_
    exact g_zret (Wf := fun w9 : va_W => w9) (u := []) X (rfl) (⟨rfl, rfl⟩) dJ0_coder_7d493_14
  exact K0
abbrev rmS_slen : Room := { frames := 1, cells := 0, slots := 0, locals := 20 }
set_option maxHeartbeats 4000000 in
set_option maxRecDepth 100000 in
theorem t_slen {qs vs ns : Nat} {fs : Nat → Int32} {h9 z9 : Int32} : cI (ZI aK aO aS aV aT bS bV dA) D (cyT cy) l yJ0_length_8abf5 wsJ0_length_8abf5 rmS_slen [(qs, .inr (0, [.ref vs, .int 0, .int h9, .int z9])), (vs, .inl (cy 1, ns, .inl fs))] [.ref qs] (fun r9 u9 => r9 = nI ns ∧ u9 = [(qs, .inr (0, [.ref vs, .int 0, .int h9, .int z9])), (vs, .inl (cy 1, ns, .inl fs))]) 0 0 := by
  refine cI_of (cc := cJ0_length_8abf5) (maxL := 1) (ret := (some .int)) (by decide) rfl (Nat.le_of_ble_eq_true rfl) (fun p e s m args below meth c B X hnm => ?_)
  have lk0 : Cond.fieldLink RJ0 9 "java/lang/String" "value" "[B" ∈ wsJ0_length_8abf5 := by decide +kernel
  have lk1 : ∀ w ∈ wsJ00, w ∈ wsJ0_length_8abf5 := by decide +kernel
  have K0 : gG p l e rmS_slen s m args below meth c D (cyT cy) B 1 (MQ below (va_Qi (fun r9 u9 => r9 = nI ns ∧ u9 = [(qs, .inr (0, [.ref vs, .int 0, .int h9, .int z9])), (vs, .inl (cy 1, ns, .inl fs))]) (gAt D (cyT cy) (fun w9 : va_W => w9) B) B) args s 0 0 B) [(qs, .inr (0, [.ref vs, .int 0, .int h9, .int z9])), (vs, .inl (cy 1, ns, .inl fs))] 0 0 0 [(0, .ref qs)] [] := by
    refine g_aload_n X dJ0_length_8abf5_0 rfl 0 rfl ?_
    refine g_getK X 0 rfl lk1 rfl 0 (by decide) lk0 (fun _ h9 => h9) rfl dJ0_length_8abf5_1 ?_
    refine g_alenK X 1 1 rfl rfl (v := nI ns) rfl dJ0_length_8abf5_4 ?_
    refine g_aload_n X dJ0_length_8abf5_5 rfl 0 rfl ?_
    refine w_afterI (W1 := []) (w := [(qs, .inr (0, [.ref vs, .int 0, .int h9, .int z9])), (vs, .inl (cy 1, ns, .inl fs))]) (wc := [(qs, .inr (0, [.ref vs, .int 0, .int h9, .int z9]))]) (wr := [(vs, .inl (cy 1, ns, .inl fs))]) X (ZI_ok _ _ _ _ _ _ _ _) [0] [1] rfl rfl rfl rfl (by decide) (hM := (t_cod (l := l) (D := D) (cy := cy) (aK := aK) (aO := aO) (aS := aS) (aV := aV) (aT := aT) (bS := bS) (bV := bV) (dA := dA) (q := qs) (v := vs) (h9 := h9) (z9 := z9))) (st := [.int (nI ns)]) (mcq := 0) (msq := 0) (a9 := ([.ref qs] : List Value).toArray) (fun H locs ls hP hD hSs hl0 => ?_) ?_
    · exact va_runV (As := []) X.1 ((t_cod (l := l) (D := D) (cy := cy) (aK := aK) (aO := aO) (aS := aS) (aV := aV) (aT := aT) (bS := bS) (bV := bV) (dA := dA) (q := qs) (v := vs) (h9 := h9) (z9 := z9)) H.size) (cwV 0 X.1.2.2.2.2 gJ0_length_8abf5_J0_coder_7d493 rfl rfl rfl (by decide +kernel) ⟨Nat.le_of_ble_eq_true rfl, Nat.le_of_ble_eq_true rfl⟩) ⟨gPre_blind (ZI_ok _ _ _ _ _ _ _ _), va_recv (q0 := 0) X.2.1 hP rfl rfl, (gPre_of (ZI_ok _ _ _ _ _ _ _ _) X.2.1 X.2.2.1 X.2.2.2.1 hP hD hSs).2⟩ rfl rfl hl0.1 rfl (lv_room (Nat.le_of_ble_eq_true rfl)) dJ0_length_8abf5_6 ⟨by show 0 + 0 ≤ 0; omega, by show 0 + 0 ≤ 0; omega⟩
    rintro r9 u9 ⟨rfl, rfl⟩
    refine g_weq (ws9 := [(vs, .inl (cy 1, ns, .inl fs)), (qs, .inr (0, [.ref vs, .int 0, .int h9, .int z9]))]) rfl ?_
    refine g_ishr X dJ0_length_8abf5_9 ?_
    refine g_top (y := nI ns) (sb_shr0 _) ?_
    refine g_pos (ws9 := [(qs, .inr (0, [.ref vs, .int 0, .int h9, .int z9])), (vs, .inl (cy 1, ns, .inl fs))]) [1, 0] (by decide) rfl ?_
    exact g_iret (Wf := fun w9 : va_W => w9) (u := [(qs, .inr (0, [.ref vs, .int 0, .int h9, .int z9])), (vs, .inl (cy 1, ns, .inl fs))]) X (⟨rfl, rfl⟩) dJ0_length_8abf5_10
  exact K0
abbrev rmS_slenT : Room := { frames := 1, cells := 0, slots := 0, locals := 20 }
set_option maxHeartbeats 4000000 in
set_option maxRecDepth 100000 in
theorem t_slenT {i : Nat} (hi : i < 11) : cI (ZI aK aO aS aV aT bS bV dA) D (cyT cy) l yJ0_length_8abf5 wsJ0_length_8abf5 rmS_slenT [] [.ref (bS i)] (fun r9 u9 => r9 = nI (tL i) ∧ u9 = []) 0 0 := by
  refine cI_of (cc := cJ0_length_8abf5) (maxL := 1) (ret := (some .int)) (by decide) rfl (Nat.le_of_ble_eq_true rfl) (fun p e s m args below meth c B X hnm => ?_)
  have lk0 : Cond.fieldLink RJ0 9 "java/lang/String" "value" "[B" ∈ wsJ0_length_8abf5 := by decide +kernel
  have K0 : gG p l e rmS_slenT s m args below meth c D (cyT cy) B 1 (MQ below (va_Qi (fun r9 u9 => r9 = nI (tL i) ∧ u9 = []) (gAt D (cyT cy) (fun w9 : va_W => w9) B) B) args s 0 0 B) [] 0 0 0 [(0, .ref (bS i))] [] := by
    refine g_aload_n X dJ0_length_8abf5_0 rfl 0 rfl ?_
    refine g_tVal X hi lk0 dJ0_length_8abf5_1 ?_
    refine g_tAl X hi dJ0_length_8abf5_4 ?_
    refine g_aload_n X dJ0_length_8abf5_5 rfl 0 rfl ?_
    refine w_afterI (W1 := []) (w := []) (wc := []) (wr := []) X (ZI_ok _ _ _ _ _ _ _ _) [] [] rfl rfl rfl rfl (by decide) (hM := (t_codT (l := l) (D := D) (cy := cy) (aK := aK) (aO := aO) (aS := aS) (aV := aV) (aT := aT) (bS := bS) (bV := bV) (dA := dA) (i := i) hi)) (st := [.int (nI (tL i))]) (mcq := 0) (msq := 0) (a9 := ([.ref (bS i)] : List Value).toArray) (fun H locs ls hP hD hSs hl0 => ?_) ?_
    · exact va_runV (As := []) X.1 ((t_codT (l := l) (D := D) (cy := cy) (aK := aK) (aO := aO) (aS := aS) (aV := aV) (aT := aT) (bS := bS) (bV := bV) (dA := dA) (i := i) hi) H.size) (cwV 0 X.1.2.2.2.2 gJ0_length_8abf5_J0_coder_7d493 rfl rfl rfl (by decide +kernel) ⟨Nat.le_of_ble_eq_true rfl, Nat.le_of_ble_eq_true rfl⟩) ⟨gPre_blind (ZI_ok _ _ _ _ _ _ _ _), t_recv X hi hSs, (gPre_of (ZI_ok _ _ _ _ _ _ _ _) X.2.1 X.2.2.1 X.2.2.2.1 hP hD hSs).2⟩ rfl rfl hl0.1 rfl (lv_room (Nat.le_of_ble_eq_true rfl)) dJ0_length_8abf5_6 ⟨by show 0 + 0 ≤ 0; omega, by show 0 + 0 ≤ 0; omega⟩
    rintro r9 u9 ⟨rfl, rfl⟩
    refine g_weq (ws9 := []) rfl ?_
    refine g_ishr X dJ0_length_8abf5_9 ?_
    refine g_top (y := nI (tL i)) (sb_shr0 _) ?_
    exact g_iret (Wf := fun w9 : va_W => w9) (u := []) X (⟨rfl, rfl⟩) dJ0_length_8abf5_10
  exact K0
abbrev rmS_getV : Room := { frames := 0, cells := 0, slots := 0, locals := 0 }
set_option maxHeartbeats 4000000 in
set_option maxRecDepth 100000 in
theorem t_getV {q v : Nat} {ml n : Int32} : cQ (ZI aK aO aS aV aT bS bV dA) D (cyT cy) l yJ5_getValue_6d5f1 wsJ5_getValue_6d5f1 rmS_getV [(q, .inr (1, [.ref v, .int 0, .int ml, .int n]))] [.ref q] (fun r9 u9 => r9 = some v ∧ u9 = [(q, .inr (1, [.ref v, .int 0, .int ml, .int n]))]) 0 0 := by
  refine cQ_of (cc := cJ5_getValue_6d5f1) (maxL := 1) (ret := (some (.array .byte))) (by decide) rfl (Nat.le_of_ble_eq_true rfl) (fun p e s m args below meth c B X hnm => ?_)
  have lk0 : Cond.fieldLink RJ5 15 "java/lang/AbstractStringBuilder" "value" "[B" ∈ wsJ5_getValue_6d5f1 := by decide +kernel
  have lk1 : ∀ w ∈ wsJ40, w ∈ wsJ5_getValue_6d5f1 := by decide +kernel
  have K0 : gG p l e rmS_getV s m args below meth c D (cyT cy) B 1 (MQ below (va_Qq (fun r9 u9 => r9 = some v ∧ u9 = [(q, .inr (1, [.ref v, .int 0, .int ml, .int n]))]) (gAt D (cyT cy) (fun w9 : va_W => w9) B) B) args s 0 0 B) [(q, .inr (1, [.ref v, .int 0, .int ml, .int n]))] 0 0 0 [(0, .ref q)] [] := by
    refine g_aload_n X dJ5_getValue_6d5f1_0 rfl 0 rfl ?_
    refine g_getK X 0 rfl lk1 rfl 0 (by decide) lk0 (fun _ h9 => h9) rfl dJ5_getValue_6d5f1_1 ?_
    exact g_aret (Wf := fun w9 : va_W => w9) (u := [(q, .inr (1, [.ref v, .int 0, .int ml, .int n]))]) X (Or.inr ⟨_, rfl⟩) (⟨rfl, rfl⟩) dJ5_getValue_6d5f1_4
  exact K0
abbrev rmS_alen : Room := { frames := 0, cells := 0, slots := 0, locals := 0 }
set_option maxHeartbeats 4000000 in
set_option maxRecDepth 100000 in
theorem t_alen {q v : Nat} {ml n : Int32} : cI (ZI aK aO aS aV aT bS bV dA) D (cyT cy) l yJ5_length_8abf5 wsJ5_length_8abf5 rmS_alen [(q, .inr (1, [.ref v, .int 0, .int ml, .int n]))] [.ref q] (fun r9 u9 => r9 = n ∧ u9 = [(q, .inr (1, [.ref v, .int 0, .int ml, .int n]))]) 0 0 := by
  refine cI_of (cc := cJ5_length_8abf5) (maxL := 1) (ret := (some .int)) (by decide) rfl (Nat.le_of_ble_eq_true rfl) (fun p e s m args below meth c B X hnm => ?_)
  have lk0 : Cond.fieldLink RJ5 79 "java/lang/AbstractStringBuilder" "count" "I" ∈ wsJ5_length_8abf5 := by decide +kernel
  have lk1 : ∀ w ∈ wsJ40, w ∈ wsJ5_length_8abf5 := by decide +kernel
  have K0 : gG p l e rmS_alen s m args below meth c D (cyT cy) B 1 (MQ below (va_Qi (fun r9 u9 => r9 = n ∧ u9 = [(q, .inr (1, [.ref v, .int 0, .int ml, .int n]))]) (gAt D (cyT cy) (fun w9 : va_W => w9) B) B) args s 0 0 B) [(q, .inr (1, [.ref v, .int 0, .int ml, .int n]))] 0 0 0 [(0, .ref q)] [] := by
    refine g_aload_n X dJ5_length_8abf5_0 rfl 0 rfl ?_
    refine g_getK X 0 rfl lk1 rfl 3 (by decide) lk0 (fun _ h9 => h9) rfl dJ5_length_8abf5_1 ?_
    exact g_iret (Wf := fun w9 : va_W => w9) (u := [(q, .inr (1, [.ref v, .int 0, .int ml, .int n]))]) X (⟨rfl, rfl⟩) dJ5_length_8abf5_4
  exact K0
abbrev rmS_blen : Room := { frames := 1, cells := 0, slots := 0, locals := 20 }
set_option maxHeartbeats 4000000 in
set_option maxRecDepth 100000 in
theorem t_blen {q v : Nat} {ml n : Int32} : cI (ZI aK aO aS aV aT bS bV dA) D (cyT cy) l yJ4_length_8abf5 wsJ4_length_8abf5 rmS_blen [(q, .inr (1, [.ref v, .int 0, .int ml, .int n]))] [.ref q] (fun r9 u9 => r9 = n ∧ u9 = [(q, .inr (1, [.ref v, .int 0, .int ml, .int n]))]) 0 0 := by
  refine cI_of (cc := cJ4_length_8abf5) (maxL := 1) (ret := (some .int)) (by decide) rfl (Nat.le_of_ble_eq_true rfl) (fun p e s m args below meth c B X hnm => ?_)
  have K0 : gG p l e rmS_blen s m args below meth c D (cyT cy) B 1 (MQ below (va_Qi (fun r9 u9 => r9 = n ∧ u9 = [(q, .inr (1, [.ref v, .int 0, .int ml, .int n]))]) (gAt D (cyT cy) (fun w9 : va_W => w9) B) B) args s 0 0 B) [(q, .inr (1, [.ref v, .int 0, .int ml, .int n]))] 0 0 0 [(0, .ref q)] [] := by
    refine g_aload_n X dJ4_length_8abf5_0 rfl 0 rfl ?_
    refine w_afterI (W1 := []) (w := [(q, .inr (1, [.ref v, .int 0, .int ml, .int n]))]) (wc := [(q, .inr (1, [.ref v, .int 0, .int ml, .int n]))]) (wr := []) X (ZI_ok _ _ _ _ _ _ _ _) [0] [] rfl rfl rfl rfl (by decide) (hM := (t_alen (l := l) (D := D) (cy := cy) (aK := aK) (aO := aO) (aS := aS) (aV := aV) (aT := aT) (bS := bS) (bV := bV) (dA := dA) (q := q) (v := v) (ml := ml) (n := n))) (st := []) (mcq := 0) (msq := 0) (a9 := ([.ref q] : List Value).toArray) (fun H locs ls hP hD hSs hl0 => ?_) ?_
    · exact va_runSU (As := []) (X.2.1.1 1 _ rfl).2 X.1 ((t_alen (l := l) (D := D) (cy := cy) (aK := aK) (aO := aO) (aS := aS) (aV := aV) (aT := aT) (bS := bS) (bV := bV) (dA := dA) (q := q) (v := v) (ml := ml) (n := n)) H.size) (va_cwSU 0 X.1.2.2.2.2 gJ4_length_8abf5_J5_length_8abf5_s343 rfl rfl rfl (by decide +kernel) ⟨Nat.le_of_ble_eq_true rfl, Nat.le_of_ble_eq_true rfl⟩) ⟨gPre_blind (ZI_ok _ _ _ _ _ _ _ _), va_recv (q0 := 0) X.2.1 hP rfl rfl, (gPre_of (ZI_ok _ _ _ _ _ _ _ _) X.2.1 X.2.2.1 X.2.2.2.1 hP hD hSs).2⟩ rfl rfl hl0.1 rfl (lv_room (Nat.le_of_ble_eq_true rfl)) dJ4_length_8abf5_1 ⟨by show 0 + 0 ≤ 0; omega, by show 0 + 0 ≤ 0; omega⟩
    rintro r9 u9 ⟨e9, rfl⟩
    rw [e9]
    refine g_weq (ws9 := [(q, .inr (1, [.ref v, .int 0, .int ml, .int n]))]) rfl ?_
    exact g_iret (Wf := fun w9 : va_W => w9) (u := [(q, .inr (1, [.ref v, .int 0, .int ml, .int n]))]) X (⟨rfl, rfl⟩) dJ4_length_8abf5_4
  exact K0
end TM
