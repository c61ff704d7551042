/-! the JDK's methods on texts: contracts over their own cells -/
section TM
variable {l : Launch} {D : va_G} {cy : Nat → ClassId} {aK aO aS aV aT bS bV dA : Nat → Nat}
abbrev rmS_newLen : Room := { frames := 1, cells := 0, slots := 0, locals := 40 }
set_option maxHeartbeats 4000000 in
set_option maxRecDepth 100000 in
theorem t_newLen {a b c9 : Nat} (ha : a + b < 65536) (hc : a + c9 < 65536) (h0 : 0 < b) : cI (ZI aK aO aS aV aT bS bV dA) D (cyT cy) l yJ8_newLength_cabcc wsJ8_newLength_cabcc rmS_newLen [] [.int (nI a), .int (nI b), .int (nI c9)] (fun r9 u9 => r9 = nI (a + max b c9) ∧ u9 = []) 0 0 := by
  refine cI_of (cc := cJ8_newLength_cabcc) (maxL := 4) (ret := (some .int)) (by decide) rfl (Nat.le_of_ble_eq_true rfl) (fun p e s m args below meth c B X hnm => ?_)
  have lk0 : Cond.methodLink RJ8 194 Lib.Math.max.name ∈ wsJ8_newLength_cabcc := by decide +kernel
  have lk1 : Cond.static Lib.Math.max.name ∈ wsJ8_newLength_cabcc := by decide +kernel
  have lk2 : Cond.initialized "java/lang/Math" ∈ wsJ8_newLength_cabcc := by decide +kernel
  have lk3 : Cond.code Lib.Math.max.name Lib.Math.max.code 2 (some .int) ∈ wsJ8_newLength_cabcc := by decide +kernel
  have lk4 : Cond.constant RJ8 200 (2147483639) ∈ wsJ8_newLength_cabcc := by decide +kernel
  have K0 : gG p l e rmS_newLen s m args below meth c D (cyT cy) B 4 (MQ below (va_Qi (fun r9 u9 => r9 = nI (a + max b c9) ∧ u9 = []) (gAt D (cyT cy) (fun w9 : va_W => w9) B) B) args s 0 0 B) [] 0 0 0 [(0, .int (nI a)), (1, .int (nI b)), (2, .int (nI c9))] [] := by
    refine g_iload_n X dJ8_newLength_cabcc_0 rfl 0 rfl ?_
    refine g_iload_n X dJ8_newLength_cabcc_1 rfl 1 rfl ?_
    refine g_iload_n X dJ8_newLength_cabcc_2 rfl 2 rfl ?_
    refine g_max X lk0 lk1 lk2 lk3 (by decide) (Nat.le_of_ble_eq_true rfl) ⟨by show 0 + 0 ≤ 0; omega, by show 0 + 0 ≤ 0; omega⟩ dJ8_newLength_cabcc_3 ?_
    refine g_top (y := nI (max b c9)) (nI_max (by omega) (by omega)) ?_
    refine g_iadd X dJ8_newLength_cabcc_6 ?_
    refine g_top (y := nI (a + max b c9)) (nq_add a (max b c9)) ?_
    refine g_istore_n X dJ8_newLength_cabcc_7 rfl (by decide) (lv' := [(3, .int (nI (a + max b c9))), (0, .int (nI a)), (1, .int (nI b)), (2, .int (nI c9))]) rfl ?_
    refine g_iconst X dJ8_newLength_cabcc_8 (v := (0 : Int32)) (by decide) ?_
    refine g_iload_n X dJ8_newLength_cabcc_9 rfl 0 rfl ?_
    refine g_icmp_ge X (tgt := 21) dJ8_newLength_cabcc_10 (by decide) (fun h9 => absurd h9 (by rw [nz0, nq_le (by omega) (by omega)]; omega)) (fun _ => ?_)
    refine g_iload_n X dJ8_newLength_cabcc_13 rfl 0 rfl ?_
    refine g_ldc X dJ8_newLength_cabcc_14 lk4 ?_
    refine g_icmp_gt X (tgt := 21) dJ8_newLength_cabcc_16 (by decide) (fun h9 => absurd h9 (by rw [show (2147483639 : Int32) = nI 2147483639 from rfl, nq_lt (by omega) (by omega)]; omega)) (fun _ => ?_)
    refine g_iload_n X dJ8_newLength_cabcc_19 rfl 0 rfl ?_
    exact g_iret (Wf := fun w9 : va_W => w9) (u := []) X (⟨rfl, rfl⟩) dJ8_newLength_cabcc_20
  exact K0
abbrev rmS_newCap : Room := { frames := 2, cells := 0, slots := 0, locals := 63 }
set_option maxHeartbeats 4000000 in
set_option maxRecDepth 100000 in
theorem t_newCap {q v cap m9 : Nat} {ml n : Int32} {f : Nat → Int32} (hcap : cap ≤ 262) (hm : m9 ≤ 130) (hlt : cap < m9) : cI (ZI aK aO aS aV aT bS bV dA) D (cyT cy) l yJ5_newCapacity_0f7a4 wsJ5_newCapacity_0f7a4 rmS_newCap [(q, .inr (1, [.ref v, .int 0, .int ml, .int n])), (v, .inl (cy 1, cap, .inl f))] [.ref q, .int (nI m9)] (fun r9 u9 => r9 = nI (sb_cap m9 cap) ∧ u9 = [(q, .inr (1, [.ref v, .int 0, .int ml, .int n])), (v, .inl (cy 1, cap, .inl f))]) 0 0 := by
  refine cI_of (cc := cJ5_newCapacity_0f7a4) (maxL := 6) (ret := (some .int)) (by decide) rfl (Nat.le_of_ble_eq_true rfl) (fun p e s m args below meth c B X hnm => ?_)
  have lk0 : Cond.fieldLink RJ5 15 "java/lang/AbstractStringBuilder" "value" "[B" ∈ wsJ5_newCapacity_0f7a4 := by decide +kernel
  have lk1 : ∀ w ∈ wsJ40, w ∈ wsJ5_newCapacity_0f7a4 := by decide +kernel
  have lk2 : Cond.fieldLink RJ5 22 "java/lang/AbstractStringBuilder" "coder" "B" ∈ wsJ5_newCapacity_0f7a4 := by decide +kernel
  have lk3 : Cond.constant RJ5 39 (2147483647) ∈ wsJ5_newCapacity_0f7a4 := by decide +kernel
  have K0 : gG p l e rmS_newCap s m args below meth c D (cyT cy) B 6 (MQ below (va_Qi (fun r9 u9 => r9 = nI (sb_cap m9 cap) ∧ u9 = [(q, .inr (1, [.ref v, .int 0, .int ml, .int n])), (v, .inl (cy 1, cap, .inl f))]) (gAt D (cyT cy) (fun w9 : va_W => w9) B) B) args s 0 0 B) [(q, .inr (1, [.ref v, .int 0, .int ml, .int n])), (v, .inl (cy 1, cap, .inl f))] 0 0 0 [(0, .ref q), (1, .int (nI m9))] [] := by
    refine g_aload_n X dJ5_newCapacity_0f7a4_0 rfl 0 rfl ?_
    refine g_getK X 0 rfl lk1 rfl 0 (by decide) lk0 (fun _ h9 => h9) rfl dJ5_newCapacity_0f7a4_1 ?_
    refine g_alenK X 1 1 rfl rfl (v := nI cap) rfl dJ5_newCapacity_0f7a4_4 ?_
    refine g_istore_n X dJ5_newCapacity_0f7a4_5 rfl (by decide) (lv' := [(2, .int (nI cap)), (0, .ref q), (1, .int (nI m9))]) rfl ?_
    refine g_iload_n X dJ5_newCapacity_0f7a4_6 rfl 2 rfl ?_
    refine g_aload_n X dJ5_newCapacity_0f7a4_7 rfl 1 rfl ?_
    refine g_getK X 0 rfl lk1 rfl 1 (by decide) lk2 (fun _ h9 => h9) rfl dJ5_newCapacity_0f7a4_8 ?_
    refine g_ishl X dJ5_newCapacity_0f7a4_11 ?_
    refine g_top (y := nI m9) (sb_shl0 _) ?_
    refine g_istore_n X dJ5_newCapacity_0f7a4_12 rfl (by decide) (lv' := [(3, .int (nI m9)), (2, .int (nI cap)), (0, .ref q), (1, .int (nI m9))]) rfl ?_
    refine g_iload_n X dJ5_newCapacity_0f7a4_13 rfl 0 rfl ?_
    refine g_iload_n X dJ5_newCapacity_0f7a4_14 rfl 1 rfl ?_
    refine g_isub X dJ5_newCapacity_0f7a4_15 ?_
    refine g_top (y := nI (m9 - cap)) (nq_sub (by omega)) ?_
    refine g_istore X dJ5_newCapacity_0f7a4_16 (by decide) (lv' := [(4, .int (nI (m9 - cap))), (3, .int (nI m9)), (2, .int (nI cap)), (0, .ref q), (1, .int (nI m9))]) rfl ?_
    refine g_iload_n X dJ5_newCapacity_0f7a4_18 rfl 2 rfl ?_
    refine g_iload X dJ5_newCapacity_0f7a4_19 0 rfl ?_
    refine g_iload_n X dJ5_newCapacity_0f7a4_21 rfl 2 rfl ?_
    refine g_iconst X dJ5_newCapacity_0f7a4_22 (v := (2 : Int32)) (by decide) ?_
    refine g_aload_n X dJ5_newCapacity_0f7a4_23 rfl 3 rfl ?_
    refine g_getK X 0 rfl lk1 rfl 1 (by decide) lk2 (fun _ h9 => h9) rfl dJ5_newCapacity_0f7a4_24 ?_
    refine g_ishl X dJ5_newCapacity_0f7a4_27 ?_
    refine g_top (y := (2 : Int32)) (sb_shl0 _) ?_
    refine g_iadd X dJ5_newCapacity_0f7a4_28 ?_
    refine g_top (y := nI (cap + 2)) (nq_add cap 2) ?_
    refine w_afterI (W1 := []) (w := [(q, .inr (1, [.ref v, .int 0, .int ml, .int n])), (v, .inl (cy 1, cap, .inl f))]) (wc := []) (wr := [(q, .inr (1, [.ref v, .int 0, .int ml, .int n])), (v, .inl (cy 1, cap, .inl f))]) X (ZI_ok _ _ _ _ _ _ _ _) [] [0, 1] rfl rfl rfl rfl (by decide) (hM := (t_newLen (l := l) (D := D) (cy := cy) (aK := aK) (aO := aO) (aS := aS) (aV := aV) (aT := aT) (bS := bS) (bV := bV) (dA := dA) (a := cap) (b := (m9 - cap)) (c9 := (cap + 2)) (by omega) (by omega) (by omega))) (st := []) (mcq := 0) (msq := 0) (a9 := ([.int (nI cap), .int (nI (m9 - cap)), .int (nI (cap + 2))] : List Value).toArray) (fun H locs ls hP hD hSs hl0 => ?_) ?_
    · exact va_runS (As := [.int (nI cap), .int (nI (m9 - cap)), .int (nI (cap + 2))]) X.1 ((t_newLen (l := l) (D := D) (cy := cy) (aK := aK) (aO := aO) (aS := aS) (aV := aV) (aT := aT) (bS := bS) (bV := bV) (dA := dA) (a := cap) (b := (m9 - cap)) (c9 := (cap + 2)) (by omega) (by omega) (by omega)) H.size) (va_cwS 3 X.1.2.2.2.2 gJ5_newCapacity_0f7a4_J8_newLength_cabcc rfl rfl rfl (by decide +kernel) ⟨Nat.le_of_ble_eq_true rfl, Nat.le_of_ble_eq_true rfl⟩) ⟨gPre_blind (ZI_ok _ _ _ _ _ _ _ _), (gPre_of (ZI_ok _ _ _ _ _ _ _ _) X.2.1 X.2.2.1 X.2.2.2.1 hP hD hSs).2⟩ rfl rfl hl0.1 rfl (lv_room (Nat.le_of_ble_eq_true rfl)) dJ5_newCapacity_0f7a4_29 ⟨by show 0 + 0 ≤ 0; omega, by show 0 + 0 ≤ 0; omega⟩
    rintro r9 u9 ⟨rfl, rfl⟩
    refine g_weq (ws9 := [(q, .inr (1, [.ref v, .int 0, .int ml, .int n])), (v, .inl (cy 1, cap, .inl f))]) rfl ?_
    refine g_top (y := nI (sb_cap m9 cap)) (congrArg nI (cap_eq hlt)) ?_
    refine g_istore X dJ5_newCapacity_0f7a4_32 (by decide) (lv' := [(5, .int (nI (sb_cap m9 cap))), (4, .int (nI (m9 - cap))), (3, .int (nI m9)), (2, .int (nI cap)), (0, .ref q), (1, .int (nI m9))]) rfl ?_
    refine g_iload X dJ5_newCapacity_0f7a4_34 0 rfl ?_
    refine g_ldc X dJ5_newCapacity_0f7a4_36 lk3 ?_
    refine g_icmp_ne X (tgt := 51) dJ5_newCapacity_0f7a4_38 (by decide) (fun _ => ?_) (fun h9 => absurd h9 (by rw [show (2147483647 : Int32) = nI 2147483647 from rfl, nq_inj (by have := cap_in hcap hm; omega) (by omega)]; have := cap_in hcap hm; omega))
    refine g_iload X dJ5_newCapacity_0f7a4_51 0 rfl ?_
    refine g_aload_n X dJ5_newCapacity_0f7a4_53 rfl 4 rfl ?_
    refine g_getK X 0 rfl lk1 rfl 1 (by decide) lk2 (fun _ h9 => h9) rfl dJ5_newCapacity_0f7a4_54 ?_
    refine g_ishr X dJ5_newCapacity_0f7a4_57 ?_
    refine g_top (y := nI (sb_cap m9 cap)) (sb_shr0 _) ?_
    exact g_iret (Wf := fun w9 : va_W => w9) (u := [(q, .inr (1, [.ref v, .int 0, .int ml, .int n])), (v, .inl (cy 1, cap, .inl f))]) X (⟨rfl, rfl⟩) dJ5_newCapacity_0f7a4_58
  exact K0
abbrev rmS_copyOf : Room := { frames := 1, cells := 1, slots := 262, locals := 80 }
set_option maxHeartbeats 4000000 in
set_option maxRecDepth 100000 in
theorem t_copyOf {v cap N : Nat} {f : Nat → Int32} (hN : N ≤ 262) (hlt : cap < N) (hf : sb_Fit f) : cQ (ZI aK aO aS aV aT bS bV dA) D (cyT cy) l yJ7_copyOf_9075b wsJ7_copyOf_9075b rmS_copyOf [(v, .inl (cy 1, cap, .inl f))] [.ref v, .int (nI N)] (fun r9 u9 => ∃ q9 : Nat, r9 = some q9 ∧ u9 = [(v, .inl (cy 1, cap, .inl f)), (q9, .inl (cy 1, N, .inl (va_cpy f (fun _ => (0 : Int32)) 0 0 cap)))]) 1 262 := by
  refine cQ_of (cc := cJ7_copyOf_9075b) (maxL := 3) (ret := (some (.array .byte))) (by decide) rfl (Nat.le_of_ble_eq_true rfl) (fun p e s m args below meth c B X hnm => ?_)
  have lk0 : Cond.methodLink RJ7 304 Lib.Math.min.name ∈ wsJ7_copyOf_9075b := by decide +kernel
  have lk1 : Cond.static Lib.Math.min.name ∈ wsJ7_copyOf_9075b := by decide +kernel
  have lk2 : Cond.initialized "java/lang/Math" ∈ wsJ7_copyOf_9075b := by decide +kernel
  have lk3 : Cond.code Lib.Math.min.name Lib.Math.min.code 2 (some .int) ∈ wsJ7_copyOf_9075b := by decide +kernel
  have lk4 : Cond.methodLink RJ7 150 arraycopyName ∈ wsJ7_copyOf_9075b := by decide +kernel
  have lk5 : Cond.native arraycopyName ∈ wsJ7_copyOf_9075b := by decide +kernel
  have lk6 : Cond.static arraycopyName ∈ wsJ7_copyOf_9075b := by decide +kernel
  have lk7 : Cond.initialized "java/lang/System" ∈ wsJ7_copyOf_9075b := by decide +kernel
  have K0 : gG p l e rmS_copyOf s m args below meth c D (cyT cy) B 3 (MQ below (va_Qq (fun r9 u9 => ∃ q9 : Nat, r9 = some q9 ∧ u9 = [(v, .inl (cy 1, cap, .inl f)), (q9, .inl (cy 1, N, .inl (va_cpy f (fun _ => (0 : Int32)) 0 0 cap)))]) (gAt D (cyT cy) (fun w9 : va_W => w9) B) B) args s 1 262 B) [(v, .inl (cy 1, cap, .inl f))] 0 0 0 [(0, .ref v), (1, .int (nI N))] [] := by
    refine g_iload_n X dJ7_copyOf_9075b_0 rfl 1 rfl ?_
    refine g_aload_n X dJ7_copyOf_9075b_1 rfl 0 rfl ?_
    refine g_alenK X 0 1 rfl rfl (v := nI cap) rfl dJ7_copyOf_9075b_2 ?_
    refine g_icmp_ne X (tgt := 14) dJ7_copyOf_9075b_3 (by decide) (fun _ => ?_) (fun h9 => absurd h9 (by rw [nq_inj (by omega) (by omega)]; omega))
    refine g_iload_n X dJ7_copyOf_9075b_14 rfl 1 rfl ?_
    refine g_newa X (atype := .byte) (a0 := (N, .inl (fun _ => (0 : Int32)))) (N := N) (cA := cy 1) (by decide +kernel) rfl 1 rfl (fun _ => rfl) (nI_nn (by omega)) (nq_clamp (by omega)) (by show N * 1 ≤ 536870912; omega) (by decide) (by show 0 + N ≤ 262; omega) dJ7_copyOf_9075b_15 (fun q_1 => ?_)
    refine g_weq (ws9 := [(v, .inl (cy 1, cap, .inl f)), (q_1, .inl (cy 1, N, .inl (fun _ => (0 : Int32))))]) rfl ?_
    refine g_astore_n X dJ7_copyOf_9075b_17 rfl (by decide) (lv' := [(2, .ref q_1), (0, .ref v), (1, .int (nI N))]) rfl ?_
    refine g_aload_n X dJ7_copyOf_9075b_18 rfl 1 rfl ?_
    refine g_iconst X dJ7_copyOf_9075b_19 (v := (0 : Int32)) (by decide) ?_
    refine g_aload_n X dJ7_copyOf_9075b_20 rfl 0 rfl ?_
    refine g_iconst X dJ7_copyOf_9075b_21 (v := (0 : Int32)) (by decide) ?_
    refine g_aload_n X dJ7_copyOf_9075b_22 rfl 1 rfl ?_
    refine g_alenK X 0 1 rfl rfl (v := nI cap) rfl dJ7_copyOf_9075b_23 ?_
    refine g_iload_n X dJ7_copyOf_9075b_24 rfl 2 rfl ?_
    refine g_min X lk0 lk1 lk2 lk3 (by decide) (Nat.le_of_ble_eq_true rfl) ⟨by show 1 + 0 ≤ 1; omega, by show 0 + N + 0 ≤ 262; omega⟩ dJ7_copyOf_9075b_25 ?_
    refine g_top (y := nI cap) (nI_minL (by omega) (by omega) (by omega)) ?_
    refine g_copyK X lk4 lk5 lk6 lk7 0 1 1 rfl rfl rfl (by decide) (by decide) (nI_nn (by omega)) (nI_cl0 (by omega) (Nat.le_refl _)) (nI_cl0 (by omega) (by omega)) hf (by decide) (Nat.le_of_ble_eq_true rfl) dJ7_copyOf_9075b_28 (ws9 := [(v, .inl (cy 1, cap, .inl f)), (q_1, .inl (cy 1, N, .inl (va_cpy f (fun _ => (0 : Int32)) 0 0 cap)))]) (by rw [nq_clamp (by omega), sb_cl0]; rfl) ?_
    refine g_aload_n X dJ7_copyOf_9075b_31 rfl 0 rfl ?_
    refine g_wid (k' := 1) (n' := 262) (by omega) (by omega) ?_
    exact g_aret (Wf := fun w9 : va_W => w9) (u := [(v, .inl (cy 1, cap, .inl f)), (q_1, .inl (cy 1, N, .inl (va_cpy f (fun _ => (0 : Int32)) 0 0 cap)))]) X (Or.inr ⟨_, rfl⟩) (⟨_, rfl, rfl⟩) dJ7_copyOf_9075b_32
  exact K0
abbrev rmS_ensC : Room := { frames := 3, cells := 1, slots := 262, locals := 102 }
set_option maxHeartbeats 4000000 in
set_option maxRecDepth 100000 in
theorem t_ensC {q v cap m9 : Nat} {ml n : Int32} {f : Nat → Int32} (hcap : cap ≤ 262) (hm : m9 ≤ 130) (hf : sb_Fit f) : cW0 (ZI aK aO aS aV aT bS bV dA) D (cyT cy) l yJ5_ensureCapacityInternal_d00df wsJ5_ensureCapacityInternal_d00df rmS_ensC [(q, .inr (1, [.ref v, .int 0, .int ml, .int n])), (v, .inl (cy 1, cap, .inl f))] [.ref q, .int (nI m9)] (fun u9 => ∃ (v9 : Nat) (f9 : Nat → Int32), u9 = [(q, .inr (1, [.ref v9, .int 0, .int ml, .int n])), (v9, .inl (cy 1, (sb_cap m9 cap), .inl f9))] ∧ sb_Fit f9 ∧ ∀ j, j < cap → f9 j = f j) 1 262 := by
  refine cW0_of (cc := cJ5_ensureCapacityInternal_d00df) (maxL := 3) (ret := none) (by decide) rfl (Nat.le_of_ble_eq_true rfl) (fun p e s m args below meth c B X hnm => ?_)
  have lk0 : Cond.fieldLink RJ5 15 "java/lang/AbstractStringBuilder" "value" "[B" ∈ wsJ5_ensureCapacityInternal_d00df := by decide +kernel
  have lk1 : ∀ w ∈ wsJ40, w ∈ wsJ5_ensureCapacityInternal_d00df := by decide +kernel
  have lk2 : Cond.fieldLink RJ5 22 "java/lang/AbstractStringBuilder" "coder" "B" ∈ wsJ5_ensureCapacityInternal_d00df := by decide +kernel
  have K0 : gG p l e rmS_ensC s m args below meth c D (cyT cy) B 3 (MQ below (va_Qv (fun u9 => ∃ (v9 : Nat) (f9 : Nat → Int32), u9 = [(q, .inr (1, [.ref v9, .int 0, .int ml, .int n])), (v9, .inl (cy 1, (sb_cap m9 cap), .inl f9))] ∧ sb_Fit f9 ∧ ∀ j, j < cap → f9 j = f j) (gAt D (cyT cy) (fun w9 : va_W => w9) B) B) args s 1 262 B) [(q, .inr (1, [.ref v, .int 0, .int ml, .int n])), (v, .inl (cy 1, cap, .inl f))] 0 0 0 [(0, .ref q), (1, .int (nI m9))] [] := by
    have hin := cap_in hcap hm
    by_cases hlt : cap < m9
    · refine g_aload_n X dJ5_ensureCapacityInternal_d00df_0 rfl 0 rfl ?_
      refine g_getK X 0 rfl lk1 rfl 0 (by decide) lk0 (fun _ h9 => h9) rfl dJ5_ensureCapacityInternal_d00df_1 ?_
      refine g_alenK X 1 1 rfl rfl (v := nI cap) rfl dJ5_ensureCapacityInternal_d00df_4 ?_
      refine g_aload_n X dJ5_ensureCapacityInternal_d00df_5 rfl 0 rfl ?_
      refine g_getK X 0 rfl lk1 rfl 1 (by decide) lk2 (fun _ h9 => h9) rfl dJ5_ensureCapacityInternal_d00df_6 ?_
      refine g_ishr X dJ5_ensureCapacityInternal_d00df_9 ?_
      refine g_top (y := nI cap) (sb_shr0 _) ?_
      refine g_istore_n X dJ5_ensureCapacityInternal_d00df_10 rfl (by decide) (lv' := [(2, .int (nI cap)), (0, .ref q), (1, .int (nI m9))]) rfl ?_
      refine g_iload_n X dJ5_ensureCapacityInternal_d00df_11 rfl 2 rfl ?_
      refine g_iload_n X dJ5_ensureCapacityInternal_d00df_12 rfl 0 rfl ?_
      refine g_isub X dJ5_ensureCapacityInternal_d00df_13 ?_
      refine g_top (y := nI (m9 - cap)) (nq_sub (by omega)) ?_
      refine g_if_le X (tgt := 38) dJ5_ensureCapacityInternal_d00df_14 (by decide) (fun h9 => absurd h9 (by rw [nz0, nq_le (by omega) (by omega)]; omega)) (fun _ => ?_)
      refine g_aload_n X dJ5_ensureCapacityInternal_d00df_17 rfl 1 rfl ?_
      refine g_aload_n X dJ5_ensureCapacityInternal_d00df_18 rfl 1 rfl ?_
      refine g_getK X 0 rfl lk1 rfl 0 (by decide) lk0 (fun _ h9 => h9) rfl dJ5_ensureCapacityInternal_d00df_19 ?_
      refine g_aload_n X dJ5_ensureCapacityInternal_d00df_22 rfl 1 rfl ?_
      refine g_iload_n X dJ5_ensureCapacityInternal_d00df_23 rfl 2 rfl ?_
      refine w_afterI (W1 := []) (w := [(q, .inr (1, [.ref v, .int 0, .int ml, .int n])), (v, .inl (cy 1, cap, .inl f))]) (wc := [(q, .inr (1, [.ref v, .int 0, .int ml, .int n])), (v, .inl (cy 1, cap, .inl f))]) (wr := []) X (ZI_ok _ _ _ _ _ _ _ _) [0, 1] [] rfl rfl rfl rfl (by decide) (hM := (t_newCap (l := l) (D := D) (cy := cy) (aK := aK) (aO := aO) (aS := aS) (aV := aV) (aT := aT) (bS := bS) (bV := bV) (dA := dA) (q := q) (v := v) (cap := cap) (m9 := m9) (ml := ml) (n := n) (f := f) hcap hm hlt)) (st := [.ref v, .ref q]) (mcq := 0) (msq := 0) (a9 := ([.ref q, .int (nI m9)] : List Value).toArray) (fun H locs ls hP hD hSs hl0 => ?_) ?_
      · exact va_runU (As := [.int (nI m9)]) X.1 ((t_newCap (l := l) (D := D) (cy := cy) (aK := aK) (aO := aO) (aS := aS) (aV := aV) (aT := aT) (bS := bS) (bV := bV) (dA := dA) (q := q) (v := v) (cap := cap) (m9 := m9) (ml := ml) (n := n) (f := f) hcap hm hlt) H.size) (va_cwU 1 X.1.2.2.2.2 gJ5_ensureCapacityInternal_d00df_J5_newCapacity_0f7a4_u104J4 rfl rfl rfl rfl (by decide +kernel) ⟨Nat.le_of_ble_eq_true rfl, Nat.le_of_ble_eq_true rfl⟩) ⟨gPre_blind (ZI_ok _ _ _ _ _ _ _ _), va_recv (q0 := 0) X.2.1 hP rfl rfl, (gPre_of (ZI_ok _ _ _ _ _ _ _ _) X.2.1 X.2.2.1 X.2.2.2.1 hP hD hSs).2⟩ rfl rfl hl0.1 rfl (lv_room (Nat.le_of_ble_eq_true rfl)) dJ5_ensureCapacityInternal_d00df_24 ⟨by show 0 + 0 ≤ 1; omega, by show 0 + 0 ≤ 262; omega⟩
      rintro r9 u9 ⟨rfl, rfl⟩
      refine g_weq (ws9 := [(q, .inr (1, [.ref v, .int 0, .int ml, .int n])), (v, .inl (cy 1, cap, .inl f))]) rfl ?_
      refine g_aload_n X dJ5_ensureCapacityInternal_d00df_27 rfl 1 rfl ?_
      refine g_getK X 0 rfl lk1 rfl 1 (by decide) lk2 (fun _ h9 => h9) rfl dJ5_ensureCapacityInternal_d00df_28 ?_
      refine g_ishl X dJ5_ensureCapacityInternal_d00df_31 ?_
      refine g_top (y := nI (sb_cap m9 cap)) (sb_shl0 _) ?_
      refine w_afterQ (W1 := []) (w := [(q, .inr (1, [.ref v, .int 0, .int ml, .int n])), (v, .inl (cy 1, cap, .inl f))]) (wc := [(v, .inl (cy 1, cap, .inl f))]) (wr := [(q, .inr (1, [.ref v, .int 0, .int ml, .int n]))]) X (ZI_ok _ _ _ _ _ _ _ _) [1] [0] rfl rfl rfl rfl (by decide) (hM := (t_copyOf (l := l) (D := D) (cy := cy) (aK := aK) (aO := aO) (aS := aS) (aV := aV) (aT := aT) (bS := bS) (bV := bV) (dA := dA) (v := v) (cap := cap) (N := (sb_cap m9 cap)) (f := f) hin (Nat.lt_of_lt_of_le hlt (sb_cap_ge m9 cap)) hf)) (st := [.ref q]) (mcq := 1) (msq := 262) (a9 := ([.ref v, .int (nI (sb_cap m9 cap))] : List Value).toArray) (fun H locs ls hP hD hSs hl0 => ?_) ?_
      · exact va_runS (As := [.ref v, .int (nI (sb_cap m9 cap))]) X.1 ((t_copyOf (l := l) (D := D) (cy := cy) (aK := aK) (aO := aO) (aS := aS) (aV := aV) (aT := aT) (bS := bS) (bV := bV) (dA := dA) (v := v) (cap := cap) (N := (sb_cap m9 cap)) (f := f) hin (Nat.lt_of_lt_of_le hlt (sb_cap_ge m9 cap)) hf) H.size) (va_cwS 2 X.1.2.2.2.2 gJ5_ensureCapacityInternal_d00df_J7_copyOf_9075b rfl rfl rfl (by decide +kernel) ⟨Nat.le_of_ble_eq_true rfl, Nat.le_of_ble_eq_true rfl⟩) ⟨gPre_blind (ZI_ok _ _ _ _ _ _ _ _), (gPre_of (ZI_ok _ _ _ _ _ _ _ _) X.2.1 X.2.2.1 X.2.2.2.1 hP hD hSs).2⟩ rfl rfl hl0.1 rfl (lv_room (Nat.le_of_ble_eq_true rfl)) dJ5_ensureCapacityInternal_d00df_32 ⟨by show 0 + 1 ≤ 1; omega, by show 0 + 262 ≤ 262; omega⟩
      rintro r9 u9 ⟨q9, rfl, rfl⟩
      refine g_weq (ws9 := [(q, .inr (1, [.ref v, .int 0, .int ml, .int n])), (v, .inl (cy 1, cap, .inl f)), (q9, .inl (cy 1, (sb_cap m9 cap), .inl (va_cpy f (fun _ => (0 : Int32)) 0 0 cap)))]) rfl ?_
      refine g_putK X 0 rfl lk1 rfl tyJ4 tyJ4_ok nmJ4 0 (by decide) lk0 (fun _ h9 => h9) rfl (ty := (.array .byte)) (v := .ref q9) (by decide +kernel) rfl rfl (Nat.le_of_ble_eq_true rfl) dJ5_ensureCapacityInternal_d00df_35 (ws9 := [(q, .inr (1, [.ref q9, .int 0, .int ml, .int n])), (v, .inl (cy 1, cap, .inl f)), (q9, .inl (cy 1, (sb_cap m9 cap), .inl (va_cpy f (fun _ => (0 : Int32)) 0 0 cap)))]) rfl ?_
      refine g_pos (ws9 := [(q, .inr (1, [.ref q9, .int 0, .int ml, .int n])), (q9, .inl (cy 1, (sb_cap m9 cap), .inl (va_cpy f (fun _ => (0 : Int32)) 0 0 cap)))]) [0, 2] (by decide) rfl ?_
      refine g_wid (k' := 1) (n' := 262) (by omega) (by omega) ?_
      exact g_vret (Wf := fun w9 : va_W => w9) (u := [(q, .inr (1, [.ref q9, .int 0, .int ml, .int n])), (q9, .inl (cy 1, (sb_cap m9 cap), .inl (va_cpy f (fun _ => (0 : Int32)) 0 0 cap)))]) X (⟨_, _, rfl, sb_fitC hf sb_fit0, fun j hj => sb_cpy0 hj⟩) dJ5_ensureCapacityInternal_d00df_38
    · have hsc : sb_cap m9 cap = cap := cap_same (by omega)
      refine g_aload_n X dJ5_ensureCapacityInternal_d00df_0 rfl 0 rfl ?_
      refine g_getK X 0 rfl lk1 rfl 0 (by decide) lk0 (fun _ h9 => h9) rfl dJ5_ensureCapacityInternal_d00df_1 ?_
      refine g_alenK X 1 1 rfl rfl (v := nI cap) rfl dJ5_ensureCapacityInternal_d00df_4 ?_
      refine g_aload_n X dJ5_ensureCapacityInternal_d00df_5 rfl 0 rfl ?_
      refine g_getK X 0 rfl lk1 rfl 1 (by decide) lk2 (fun _ h9 => h9) rfl dJ5_ensureCapacityInternal_d00df_6 ?_
      refine g_ishr X dJ5_ensureCapacityInternal_d00df_9 ?_
      refine g_top (y := nI cap) (sb_shr0 _) ?_
      refine g_istore_n X dJ5_ensureCapacityInternal_d00df_10 rfl (by decide) (lv' := [(2, .int (nI cap)), (0, .ref q), (1, .int (nI m9))]) rfl ?_
      refine g_iload_n X dJ5_ensureCapacityInternal_d00df_11 rfl 2 rfl ?_
      refine g_iload_n X dJ5_ensureCapacityInternal_d00df_12 rfl 0 rfl ?_
      refine g_isub X dJ5_ensureCapacityInternal_d00df_13 ?_
      refine g_if_le X (tgt := 38) dJ5_ensureCapacityInternal_d00df_14 (by decide) (fun _ => ?_) (fun h9 => absurd (cap_no (by omega) (by omega) (by omega)) h9)
      refine g_wid (k' := 1) (n' := 262) (by omega) (by omega) ?_
      exact g_vret (Wf := fun w9 : va_W => w9) (u := [(q, .inr (1, [.ref v, .int 0, .int ml, .int n])), (v, .inl (cy 1, cap, .inl f))]) X (⟨v, f, by rw [hsc], hf, fun _ _ => rfl⟩) dJ5_ensureCapacityInternal_d00df_38
  exact K0
end TM
