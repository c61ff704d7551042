/-! the JDK's methods on texts: contracts over their own cells -/
section TM
variable {l : Launch} {D : va_G} {cy : Nat → ClassId} {aK aO aS aV aT bS bV dA : Nat → Nat}
abbrev rmS_ainit : Room := { frames := 1, cells := 1, slots := 16, locals := 40 }
set_option maxHeartbeats 4000000 in
set_option maxRecDepth 100000 in
theorem t_ainit {q : Nat} : cW0 (ZI aK aO aS aV aT bS bV dA) D (cyT cy) l yJ5_init_d00df wsJ5_init_d00df rmS_ainit [(q, .inr (1, [.null, .int 0, .int 0, .int 0]))] [.ref q, .int (16 : Int32)] (fun u9 => ∃ v9 : Nat, u9 = [(q, .inr (1, [.ref v9, .int 0, .int 0, .int 0])), (v9, .inl (cy 1, 16, .inl (fun _ => (0 : Int32))))]) 1 16 := by
  refine cW0_of (cc := cJ5_init_d00df) (maxL := 2) (ret := none) (by decide) rfl (Nat.le_of_ble_eq_true rfl) (fun p e s m args below meth c B X hnm => ?_)
  have lk0 : Cond.fieldLink RJ5 18 "java/lang/String" "COMPACT_STRINGS" "Z" ∈ wsJ5_init_d00df := by decide +kernel
  have lk1 : Cond.fieldLink RJ5 15 "java/lang/AbstractStringBuilder" "value" "[B" ∈ wsJ5_init_d00df := by decide +kernel
  have lk2 : ∀ w ∈ wsJ40, w ∈ wsJ5_init_d00df := by decide +kernel
  have lk3 : Cond.fieldLink RJ5 22 "java/lang/AbstractStringBuilder" "coder" "B" ∈ wsJ5_init_d00df := by decide +kernel
  have K0 : gG p l e rmS_ainit s m args below meth c D (cyT cy) B 2 (MQ below (va_Qv (fun u9 => ∃ v9 : Nat, u9 = [(q, .inr (1, [.ref v9, .int 0, .int 0, .int 0])), (v9, .inl (cy 1, 16, .inl (fun _ => (0 : Int32))))]) (gAt D (cyT cy) (fun w9 : va_W => w9) B) B) args s 1 16 B) [(q, .inr (1, [.null, .int 0, .int 0, .int 0]))] 0 0 0 [(0, .ref q), (1, .int (16 : Int32))] [] := by
    refine g_aload_n X dJ5_init_d00df_0 rfl 0 rfl ?_
    refine g_objI X (by decide +kernel) (by decide +kernel) (by decide +kernel) dJ5_init_d00df_1 (by decide) (Nat.le_of_ble_eq_true rfl) ?_
    refine g_sCS (gC_ZC X) lk0 dJ5_init_d00df_4 ?_
    refine g_if_eq X (tgt := 25) dJ5_init_d00df_7 (by decide) (fun h9 => absurd h9 (by decide)) (fun _ => ?_)
    refine g_aload_n X dJ5_init_d00df_10 rfl 0 rfl ?_
    refine g_iload_n X dJ5_init_d00df_11 rfl 1 rfl ?_
    refine g_newa X (atype := .byte) (a0 := (16, .inl (fun _ => (0 : Int32)))) (N := 16) (cA := cy 1) (by decide +kernel) rfl 1 rfl (fun _ => rfl) (by decide) (by decide) (by show 16 * 1 ≤ 536870912; omega) (by decide) (by show 0 + 16 ≤ 16; omega) dJ5_init_d00df_12 (fun q_1 => ?_)
    refine g_weq (ws9 := [(q, .inr (1, [.null, .int 0, .int 0, .int 0])), (q_1, .inl (cy 1, 16, .inl (fun _ => (0 : Int32))))]) rfl ?_
    refine g_putK X 0 rfl lk2 rfl tyJ4 tyJ4_ok nmJ4 0 (by decide) lk1 (fun _ h9 => h9) rfl (ty := (.array .byte)) (v := .ref q_1) (by decide +kernel) rfl rfl (Nat.le_of_ble_eq_true rfl) dJ5_init_d00df_14 (ws9 := [(q, .inr (1, [.ref q_1, .int 0, .int 0, .int 0])), (q_1, .inl (cy 1, 16, .inl (fun _ => (0 : Int32))))]) rfl ?_
    refine g_aload_n X dJ5_init_d00df_17 rfl 0 rfl ?_
    refine g_iconst X dJ5_init_d00df_18 (v := (0 : Int32)) (by decide) ?_
    refine g_putK X 0 rfl lk2 rfl tyJ4 tyJ4_ok nmJ4 1 (by decide) lk3 (fun _ h9 => h9) rfl (ty := .byte) (v := .int (0 : Int32)) (by decide +kernel) (by decide +kernel) rfl (Nat.le_of_ble_eq_true rfl) dJ5_init_d00df_19 (ws9 := [(q, .inr (1, [.ref q_1, .int (0 : Int32), .int 0, .int 0])), (q_1, .inl (cy 1, 16, .inl (fun _ => (0 : Int32))))]) rfl ?_
    refine g_goto X (tgt := 38) dJ5_init_d00df_22 (by decide) ?_
    refine g_wid (k' := 1) (n' := 16) (by omega) (by omega) ?_
    exact g_vret (Wf := fun w9 : va_W => w9) (u := [(q, .inr (1, [.ref q_1, .int (0 : Int32), .int 0, .int 0])), (q_1, .inl (cy 1, 16, .inl (fun _ => (0 : Int32))))]) X (⟨_, rfl⟩) dJ5_init_d00df_38
  exact K0
abbrev rmS_binit : Room := { frames := 2, cells := 1, slots := 16, locals := 61 }
set_option maxHeartbeats 4000000 in
set_option maxRecDepth 100000 in
theorem t_binit {q : Nat} : cW0 (ZI aK aO aS aV aT bS bV dA) D (cyT cy) l yJ4_init_da8c8 wsJ4_init_da8c8 rmS_binit [(q, .inr (1, [.null, .int 0, .int 0, .int 0]))] [.ref q] (fun u9 => ∃ v9 : Nat, u9 = [(q, .inr (1, [.ref v9, .int 0, .int 0, .int 0])), (v9, .inl (cy 1, 16, .inl (fun _ => (0 : Int32))))]) 1 16 := by
  refine cW0_of (cc := cJ4_init_da8c8) (maxL := 1) (ret := none) (by decide) rfl (Nat.le_of_ble_eq_true rfl) (fun p e s m args below meth c B X hnm => ?_)
  have lk0 : Cond.initialized RJ5 ∈ wsJ4_init_da8c8 := by decide +kernel
  have lk1 : Cond.methodLink RJ4 1 yJ5_init_d00df ∈ wsJ4_init_da8c8 := by decide +kernel
  have lk2 : Cond.instanceMethod yJ5_init_d00df ∈ wsJ4_init_da8c8 := by decide +kernel
  have K0 : gG p l e rmS_binit s m args below meth c D (cyT cy) B 1 (MQ below (va_Qv (fun u9 => ∃ v9 : Nat, u9 = [(q, .inr (1, [.ref v9, .int 0, .int 0, .int 0])), (v9, .inl (cy 1, 16, .inl (fun _ => (0 : Int32))))]) (gAt D (cyT cy) (fun w9 : va_W => w9) B) B) args s 1 16 B) [(q, .inr (1, [.null, .int 0, .int 0, .int 0]))] 0 0 0 [(0, .ref q)] [] := by
    refine g_aload_n X dJ4_init_da8c8_0 rfl 0 rfl ?_
    refine g_bipush X dJ4_init_da8c8_1 (v := (16 : Int32)) (by decide) ?_
    refine w_afterV (W1 := []) (w := [(q, .inr (1, [.null, .int 0, .int 0, .int 0]))]) (wc := [(q, .inr (1, [.null, .int 0, .int 0, .int 0]))]) (wr := []) X (ZI_ok _ _ _ _ _ _ _ _) [0] [] rfl rfl rfl rfl (by decide) (hM := (t_ainit (l := l) (D := D) (cy := cy) (aK := aK) (aO := aO) (aS := aS) (aV := aV) (aT := aT) (bS := bS) (bV := bV) (dA := dA) (q := q))) (st := []) (mcq := 1) (msq := 16) (a9 := ([.ref q, .int (16 : Int32)] : List Value).toArray) (fun H locs ls hP hD hSs hl0 => ?_) ?_
    · exact va_runI (As := [.int (16 : Int32)]) X.1 ((t_ainit (l := l) (D := D) (cy := cy) (aK := aK) (aO := aO) (aS := aS) (aV := aV) (aT := aT) (bS := bS) (bV := bV) (dA := dA) (q := q)) H.size) (cwI 1 X.1.2.2.2.2 gJ4_init_da8c8_J5_init_d00df rfl rfl rfl (X.1.2.2.2.2 _ lk0) (X.1.2.2.2.2 _ lk1) (X.1.2.2.2.2 _ lk2) rfl (by decide +kernel) ⟨Nat.le_of_ble_eq_true rfl, Nat.le_of_ble_eq_true rfl⟩) ⟨gPre_blind (ZI_ok _ _ _ _ _ _ _ _), (gPre_of (ZI_ok _ _ _ _ _ _ _ _) X.2.1 X.2.2.1 X.2.2.2.1 hP hD hSs).2⟩ rfl rfl hl0.1 rfl (lv_room (Nat.le_of_ble_eq_true rfl)) dJ4_init_da8c8_3 ⟨by show 0 + 1 ≤ 1; omega, by show 0 + 16 ≤ 16; omega⟩
    rintro u9 ⟨v9, rfl⟩
    refine g_weq (ws9 := [(q, .inr (1, [.ref v9, .int 0, .int 0, .int 0])), (v9, .inl (cy 1, 16, .inl (fun _ => (0 : Int32))))]) rfl ?_
    refine g_wid (k' := 1) (n' := 16) (by omega) (by omega) ?_
    exact g_vret (Wf := fun w9 : va_W => w9) (u := [(q, .inr (1, [.ref v9, .int 0, .int 0, .int 0])), (v9, .inl (cy 1, 16, .inl (fun _ => (0 : Int32))))]) X (⟨_, rfl⟩) dJ4_init_da8c8_6
  exact K0
abbrev rmS_chkL : Room := { frames := 0, cells := 0, slots := 0, locals := 0 }
set_option maxHeartbeats 4000000 in
set_option maxRecDepth 100000 in
theorem t_chkL {n9 : Nat} (hn : n9 < 65536) : cW0 (ZI aK aO aS aV aT bS bV dA) D (cyT cy) l yJ7_checkLength_df160 wsJ7_checkLength_df160 rmS_chkL [] [.int 0, .int (nI n9)] (fun u9 => u9 = []) 0 0 := by
  refine cW0_of (cc := cJ7_checkLength_df160) (maxL := 2) (ret := none) (by decide) rfl (Nat.le_of_ble_eq_true rfl) (fun p e s m args below meth c B X hnm => ?_)
  have K0 : gG p l e rmS_chkL s m args below meth c D (cyT cy) B 2 (MQ below (va_Qv (fun u9 => u9 = []) (gAt D (cyT cy) (fun w9 : va_W => w9) B) B) args s 0 0 B) [] 0 0 0 [(0, .int 0), (1, .int (nI n9))] [] := by
    refine g_iload_n X dJ7_checkLength_df160_0 rfl 1 rfl ?_
    refine g_iload_n X dJ7_checkLength_df160_1 rfl 0 rfl ?_
    refine g_icmp_ge X (tgt := 37) dJ7_checkLength_df160_2 (by decide) (fun _ => ?_) (fun h9 => absurd (by rw [nz0, nq_le (by omega) (by omega)]; omega) h9)
    exact g_vret (Wf := fun w9 : va_W => w9) (u := []) X (rfl) dJ7_checkLength_df160_37
  exact K0
abbrev rmS_cprB : Room := { frames := 1, cells := 1, slots := 262, locals := 80 }
set_option maxHeartbeats 4000000 in
set_option maxRecDepth 100000 in
theorem t_cprB {v cap n9 : Nat} {f : Nat → Int32} (hn : n9 ≤ cap) (hcap : cap ≤ 262) (hf : sb_Fit f) : cQ (ZI aK aO aS aV aT bS bV dA) D (cyT cy) l yJ7_copyOfRangeByte_39247 wsJ7_copyOfRangeByte_39247 rmS_cprB [(v, .inl (cy 1, cap, .inl f))] [.ref v, .int 0, .int (nI n9)] (fun r9 u9 => ∃ q9 : Nat, r9 = some q9 ∧ u9 = [(v, .inl (cy 1, cap, .inl f)), (q9, .inl (cy 1, n9, .inl (va_cpy f (fun _ => (0 : Int32)) 0 0 n9)))]) 1 262 := by
  refine cQ_of (cc := cJ7_copyOfRangeByte_39247) (maxL := 5) (ret := (some (.array .byte))) (by decide) rfl (Nat.le_of_ble_eq_true rfl) (fun p e s m args below meth c B X hnm => ?_)
  have lk0 : Cond.methodLink RJ7 304 Lib.Math.min.name ∈ wsJ7_copyOfRangeByte_39247 := by decide +kernel
  have lk1 : Cond.static Lib.Math.min.name ∈ wsJ7_copyOfRangeByte_39247 := by decide +kernel
  have lk2 : Cond.initialized "java/lang/Math" ∈ wsJ7_copyOfRangeByte_39247 := by decide +kernel
  have lk3 : Cond.code Lib.Math.min.name Lib.Math.min.code 2 (some .int) ∈ wsJ7_copyOfRangeByte_39247 := by decide +kernel
  have lk4 : Cond.methodLink RJ7 150 arraycopyName ∈ wsJ7_copyOfRangeByte_39247 := by decide +kernel
  have lk5 : Cond.native arraycopyName ∈ wsJ7_copyOfRangeByte_39247 := by decide +kernel
  have lk6 : Cond.static arraycopyName ∈ wsJ7_copyOfRangeByte_39247 := by decide +kernel
  have lk7 : Cond.initialized "java/lang/System" ∈ wsJ7_copyOfRangeByte_39247 := by decide +kernel
  have K0 : gG p l e rmS_cprB s m args below meth c D (cyT cy) B 5 (MQ below (va_Qq (fun r9 u9 => ∃ q9 : Nat, r9 = some q9 ∧ u9 = [(v, .inl (cy 1, cap, .inl f)), (q9, .inl (cy 1, n9, .inl (va_cpy f (fun _ => (0 : Int32)) 0 0 n9)))]) (gAt D (cyT cy) (fun w9 : va_W => w9) B) B) args s 1 262 B) [(v, .inl (cy 1, cap, .inl f))] 0 0 0 [(0, .ref v), (1, .int 0), (2, .int (nI n9))] [] := by
    refine g_iload_n X dJ7_copyOfRangeByte_39247_0 rfl 1 rfl ?_
    refine g_iload_n X dJ7_copyOfRangeByte_39247_1 rfl 2 rfl ?_
    refine w_afterV (W1 := []) (w := [(v, .inl (cy 1, cap, .inl f))]) (wc := []) (wr := [(v, .inl (cy 1, cap, .inl f))]) X (ZI_ok _ _ _ _ _ _ _ _) [] [0] rfl rfl rfl rfl (by decide) (hM := (t_chkL (l := l) (D := D) (cy := cy) (aK := aK) (aO := aO) (aS := aS) (aV := aV) (aT := aT) (bS := bS) (bV := bV) (dA := dA) (n9 := n9) (by omega))) (st := []) (mcq := 0) (msq := 0) (a9 := ([.int 0, .int (nI n9)] : List Value).toArray) (fun H locs ls hP hD hSs hl0 => ?_) ?_
    · exact va_runS (As := [.int 0, .int (nI n9)]) X.1 ((t_chkL (l := l) (D := D) (cy := cy) (aK := aK) (aO := aO) (aS := aS) (aV := aV) (aT := aT) (bS := bS) (bV := bV) (dA := dA) (n9 := n9) (by omega)) H.size) (va_cwS 2 X.1.2.2.2.2 gJ7_copyOfRangeByte_39247_J7_checkLength_df160 rfl rfl rfl (by decide +kernel) ⟨Nat.le_of_ble_eq_true rfl, Nat.le_of_ble_eq_true rfl⟩) ⟨gPre_blind (ZI_ok _ _ _ _ _ _ _ _), (gPre_of (ZI_ok _ _ _ _ _ _ _ _) X.2.1 X.2.2.1 X.2.2.2.1 hP hD hSs).2⟩ rfl rfl hl0.1 rfl (lv_room (Nat.le_of_ble_eq_true rfl)) dJ7_copyOfRangeByte_39247_2 ⟨by show 0 + 0 ≤ 1; omega, by show 0 + 0 ≤ 262; omega⟩
    rintro u9 rfl
    refine g_weq (ws9 := [(v, .inl (cy 1, cap, .inl f))]) rfl ?_
    refine g_iload_n X dJ7_copyOfRangeByte_39247_5 rfl 2 rfl ?_
    refine g_iload_n X dJ7_copyOfRangeByte_39247_6 rfl 1 rfl ?_
    refine g_isub X dJ7_copyOfRangeByte_39247_7 ?_
    refine g_top (y := nI n9) (Int32.sub_zero _) ?_
    refine g_istore_n X dJ7_copyOfRangeByte_39247_8 rfl (by decide) (lv' := [(3, .int (nI n9)), (0, .ref v), (1, .int 0), (2, .int (nI n9))]) rfl ?_
    refine g_iload_n X dJ7_copyOfRangeByte_39247_9 rfl 0 rfl ?_
    refine g_newa X (atype := .byte) (a0 := (n9, .inl (fun _ => (0 : Int32)))) (N := n9) (cA := cy 1) (by decide +kernel) rfl 1 rfl (fun _ => rfl) (nI_nn (by omega)) (nq_clamp (by omega)) (by show n9 * 1 ≤ 536870912; omega) (by decide) (by show 0 + n9 ≤ 262; omega) dJ7_copyOfRangeByte_39247_10 (fun q_1 => ?_)
    refine g_weq (ws9 := [(v, .inl (cy 1, cap, .inl f)), (q_1, .inl (cy 1, n9, .inl (fun _ => (0 : Int32))))]) rfl ?_
    refine g_astore X dJ7_copyOfRangeByte_39247_12 (by decide) (lv' := [(4, .ref q_1), (3, .int (nI n9)), (0, .ref v), (1, .int 0), (2, .int (nI n9))]) rfl ?_
    refine g_aload_n X dJ7_copyOfRangeByte_39247_14 rfl 2 rfl ?_
    refine g_iload_n X dJ7_copyOfRangeByte_39247_15 rfl 3 rfl ?_
    refine g_aload X dJ7_copyOfRangeByte_39247_16 0 rfl ?_
    refine g_iconst X dJ7_copyOfRangeByte_39247_18 (v := (0 : Int32)) (by decide) ?_
    refine g_aload_n X dJ7_copyOfRangeByte_39247_19 rfl 2 rfl ?_
    refine g_alenK X 0 1 rfl rfl (v := nI cap) rfl dJ7_copyOfRangeByte_39247_20 ?_
    refine g_iload_n X dJ7_copyOfRangeByte_39247_21 rfl 3 rfl ?_
    refine g_isub X dJ7_copyOfRangeByte_39247_22 ?_
    refine g_top (y := nI cap) (Int32.sub_zero _) ?_
    refine g_iload_n X dJ7_copyOfRangeByte_39247_23 rfl 1 rfl ?_
    refine g_min X lk0 lk1 lk2 lk3 (by decide) (Nat.le_of_ble_eq_true rfl) ⟨by show 1 + 0 ≤ 1; omega, by show 0 + n9 + 0 ≤ 262; omega⟩ dJ7_copyOfRangeByte_39247_24 ?_
    refine g_top (y := nI n9) (nI_minR (by omega) (by omega) hn) ?_
    refine g_copyK X lk4 lk5 lk6 lk7 0 1 1 rfl rfl rfl (by decide) (by decide) (nI_nn (by omega)) (nI_cl0 (by omega) hn) (nI_cl0 (by omega) (Nat.le_refl _)) hf (by decide) (Nat.le_of_ble_eq_true rfl) dJ7_copyOfRangeByte_39247_27 (ws9 := [(v, .inl (cy 1, cap, .inl f)), (q_1, .inl (cy 1, n9, .inl (va_cpy f (fun _ => (0 : Int32)) 0 0 n9)))]) (by rw [nq_clamp (by omega), sb_cl0]; rfl) ?_
    refine g_aload X dJ7_copyOfRangeByte_39247_30 0 rfl ?_
    refine g_wid (k' := 1) (n' := 262) (by omega) (by omega) ?_
    exact g_aret (Wf := fun w9 : va_W => w9) (u := [(v, .inl (cy 1, cap, .inl f)), (q_1, .inl (cy 1, n9, .inl (va_cpy f (fun _ => (0 : Int32)) 0 0 n9)))]) X (Or.inr ⟨_, rfl⟩) (⟨_, rfl, rfl⟩) dJ7_copyOfRangeByte_39247_32
  exact K0
abbrev rmS_cpR : Room := { frames := 2, cells := 1, slots := 262, locals := 104 }
set_option maxHeartbeats 4000000 in
set_option maxRecDepth 100000 in
theorem t_cpR {v cap n9 : Nat} {f : Nat → Int32} (hn : n9 ≤ cap) (hcap : cap ≤ 262) (hf : sb_Fit f) : cQ (ZI aK aO aS aV aT bS bV dA) D (cyT cy) l yJ7_copyOfRange_39247 wsJ7_copyOfRange_39247 rmS_cpR [(v, .inl (cy 1, cap, .inl f))] [.ref v, .int 0, .int (nI n9)] (fun r9 u9 => ∃ (q9 : Nat) (f9 : Nat → Int32), r9 = some q9 ∧ u9 = [(v, .inl (cy 1, cap, .inl f)), (q9, .inl (cy 1, n9, .inl f9))] ∧ sb_Fit f9 ∧ ∀ j, j < n9 → f9 j = f j) 1 262 := by
  refine cQ_of (cc := cJ7_copyOfRange_39247) (maxL := 3) (ret := (some (.array .byte))) (by decide) rfl (Nat.le_of_ble_eq_true rfl) (fun p e s m args below meth c B X hnm => ?_)
  have lk0 : Cond.methodLink RJ7 310 ⟨"[B", "clone", "()Ljava/lang/Object;"⟩ ∈ wsJ7_copyOfRange_39247 := by decide +kernel
  have lk1 : Cond.sameMethod "[B" "java/lang/Object" "clone" "()Ljava/lang/Object;" ∈ wsJ7_copyOfRange_39247 := by decide +kernel
  have lk2 : Cond.native ⟨"java/lang/Object", "clone", "()Ljava/lang/Object;"⟩ ∈ wsJ7_copyOfRange_39247 := by decide +kernel
  have lk3 : Cond.instanceMethod ⟨"java/lang/Object", "clone", "()Ljava/lang/Object;"⟩ ∈ wsJ7_copyOfRange_39247 := by decide +kernel
  have lk4 : Cond.selects "[B" ⟨"[B", "clone", "()Ljava/lang/Object;"⟩ ⟨"java/lang/Object", "clone", "()Ljava/lang/Object;"⟩ ∈ wsJ7_copyOfRange_39247 := by decide +kernel
  have lk5 : Cond.classLink RJ7 311 "[B" ∈ wsJ7_copyOfRange_39247 := by decide +kernel
  have K0 : gG p l e rmS_cpR s m args below meth c D (cyT cy) B 3 (MQ below (va_Qq (fun r9 u9 => ∃ (q9 : Nat) (f9 : Nat → Int32), r9 = some q9 ∧ u9 = [(v, .inl (cy 1, cap, .inl f)), (q9, .inl (cy 1, n9, .inl f9))] ∧ sb_Fit f9 ∧ ∀ j, j < n9 → f9 j = f j) (gAt D (cyT cy) (fun w9 : va_W => w9) B) B) args s 1 262 B) [(v, .inl (cy 1, cap, .inl f))] 0 0 0 [(0, .ref v), (1, .int 0), (2, .int (nI n9))] [] := by
    by_cases he : n9 = cap
    · subst he
      refine g_iload_n X dJ7_copyOfRange_39247_0 rfl 1 rfl ?_
      refine g_if_ne X (tgt := 10) dJ7_copyOfRange_39247_1 (by decide) (fun h9 => absurd (rfl) h9) (fun _ => ?_)
      refine g_iload_n X dJ7_copyOfRange_39247_4 rfl 2 rfl ?_
      refine g_aload_n X dJ7_copyOfRange_39247_5 rfl 0 rfl ?_
      refine g_alenK X 0 1 rfl rfl (v := nI n9) rfl dJ7_copyOfRange_39247_6 ?_
      refine g_icmp_eq X (tgt := 17) dJ7_copyOfRange_39247_7 (by decide) (fun _ => ?_) (fun h9 => absurd (rfl) h9)
      refine g_aload_n X dJ7_copyOfRange_39247_17 rfl 0 rfl ?_
      refine g_cloneK X lk0 lk1 lk2 lk3 lk4 X.2.2.2.1.2.2.2 0 1 rfl rfl hf (by decide) (Nat.le_of_ble_eq_true rfl) (by decide) (by show 0 + n9 ≤ 262; omega) dJ7_copyOfRange_39247_18 (fun q_1 => ?_)
      refine g_weq (ws9 := [(v, .inl (cy 1, n9, .inl f)), (q_1, .inl (cy 1, n9, .inl f))]) rfl ?_
      refine g_castK X lk5 1 rfl (X.2.1.2 1 _ rfl).2 dJ7_copyOfRange_39247_21 ?_
      refine g_wid (k' := 1) (n' := 262) (by omega) (by omega) ?_
      exact g_aret (Wf := fun w9 : va_W => w9) (u := [(v, .inl (cy 1, n9, .inl f)), (q_1, .inl (cy 1, n9, .inl f))]) X (Or.inr ⟨_, rfl⟩) (⟨_, f, rfl, rfl, hf, fun _ _ => rfl⟩) dJ7_copyOfRange_39247_24
    · refine g_iload_n X dJ7_copyOfRange_39247_0 rfl 1 rfl ?_
      refine g_if_ne X (tgt := 10) dJ7_copyOfRange_39247_1 (by decide) (fun h9 => absurd (rfl) h9) (fun _ => ?_)
      refine g_iload_n X dJ7_copyOfRange_39247_4 rfl 2 rfl ?_
      refine g_aload_n X dJ7_copyOfRange_39247_5 rfl 0 rfl ?_
      refine g_alenK X 0 1 rfl rfl (v := nI cap) rfl dJ7_copyOfRange_39247_6 ?_
      refine g_icmp_eq X (tgt := 17) dJ7_copyOfRange_39247_7 (by decide) (fun h9 => absurd h9 (by rw [nq_inj (by omega) (by omega)]; exact he)) (fun _ => ?_)
      refine g_aload_n X dJ7_copyOfRange_39247_10 rfl 0 rfl ?_
      refine g_iload_n X dJ7_copyOfRange_39247_11 rfl 1 rfl ?_
      refine g_iload_n X dJ7_copyOfRange_39247_12 rfl 2 rfl ?_
      refine w_afterQ (W1 := []) (w := [(v, .inl (cy 1, cap, .inl f))]) (wc := [(v, .inl (cy 1, cap, .inl f))]) (wr := []) X (ZI_ok _ _ _ _ _ _ _ _) [0] [] rfl rfl rfl rfl (by decide) (hM := (t_cprB (l := l) (D := D) (cy := cy) (aK := aK) (aO := aO) (aS := aS) (aV := aV) (aT := aT) (bS := bS) (bV := bV) (dA := dA) (v := v) (cap := cap) (n9 := n9) (f := f) hn hcap hf)) (st := []) (mcq := 1) (msq := 262) (a9 := ([.ref v, .int 0, .int (nI n9)] : List Value).toArray) (fun H locs ls hP hD hSs hl0 => ?_) ?_
      · exact va_runS (As := [.ref v, .int 0, .int (nI n9)]) X.1 ((t_cprB (l := l) (D := D) (cy := cy) (aK := aK) (aO := aO) (aS := aS) (aV := aV) (aT := aT) (bS := bS) (bV := bV) (dA := dA) (v := v) (cap := cap) (n9 := n9) (f := f) hn hcap hf) H.size) (va_cwS 3 X.1.2.2.2.2 gJ7_copyOfRange_39247_J7_copyOfRangeByte_39247 rfl rfl rfl (by decide +kernel) ⟨Nat.le_of_ble_eq_true rfl, Nat.le_of_ble_eq_true rfl⟩) ⟨gPre_blind (ZI_ok _ _ _ _ _ _ _ _), (gPre_of (ZI_ok _ _ _ _ _ _ _ _) X.2.1 X.2.2.1 X.2.2.2.1 hP hD hSs).2⟩ rfl rfl hl0.1 rfl (lv_room (Nat.le_of_ble_eq_true rfl)) dJ7_copyOfRange_39247_13 ⟨by show 0 + 1 ≤ 1; omega, by show 0 + 262 ≤ 262; omega⟩
      rintro r9 u9 ⟨q9, rfl, rfl⟩
      refine g_weq (ws9 := [(v, .inl (cy 1, cap, .inl f)), (q9, .inl (cy 1, n9, .inl (va_cpy f (fun _ => (0 : Int32)) 0 0 n9)))]) rfl ?_
      refine g_wid (k' := 1) (n' := 262) (by omega) (by omega) ?_
      exact g_aret (Wf := fun w9 : va_W => w9) (u := [(v, .inl (cy 1, cap, .inl f)), (q9, .inl (cy 1, n9, .inl (va_cpy f (fun _ => (0 : Int32)) 0 0 n9)))]) X (Or.inr ⟨_, rfl⟩) (⟨_, _, rfl, rfl, sb_fitC hf sb_fit0, fun j hj => sb_cpy0 hj⟩) dJ7_copyOfRange_39247_16
  exact K0
abbrev rmS_sini : Room := { frames := 3, cells := 1, slots := 262, locals := 126 }
set_option maxHeartbeats 4000000 in
set_option maxRecDepth 100000 in
theorem t_sini {qs q v cap n9 : Nat} {ml : Int32} {f : Nat → Int32} (hn : n9 ≤ cap) (hcap : cap ≤ 262) (hf : sb_Fit f) : cW0 (ZI aK aO aS aV aT bS bV dA) D (cyT cy) l yJ0_init_db425 wsJ0_init_db425 rmS_sini [(qs, .inr (0, [.null, .int 0, .int 0, .int 0])), (q, .inr (1, [.ref v, .int 0, .int ml, .int (nI n9)])), (v, .inl (cy 1, cap, .inl f))] [.ref qs, .ref q, .null] (fun u9 => ∃ (v9 : Nat) (f9 : Nat → Int32), u9 = [(qs, .inr (0, [.ref v9, .int 0, .int 0, .int 0])), (v9, .inl (cy 1, n9, .inl f9)), (q, .inr (1, [.ref v, .int 0, .int ml, .int (nI n9)])), (v, .inl (cy 1, cap, .inl f))] ∧ sb_Fit f9 ∧ ∀ j, j < n9 → f9 j = f j) 1 262 := by
  refine cW0_of (cc := cJ0_init_db425) (maxL := 5) (ret := none) (by decide) rfl (Nat.le_of_ble_eq_true rfl) (fun p e s m args below meth c B X hnm => ?_)
  have lk0 : Cond.fieldLink RJ0 15 "java/lang/String" "coder" "B" ∈ wsJ0_init_db425 := by decide +kernel
  have lk1 : ∀ w ∈ wsJ00, w ∈ wsJ0_init_db425 := by decide +kernel
  have lk2 : Cond.fieldLink RJ0 9 "java/lang/String" "value" "[B" ∈ wsJ0_init_db425 := by decide +kernel
  have K0 : gG p l e rmS_sini s m args below meth c D (cyT cy) B 5 (MQ below (va_Qv (fun u9 => ∃ (v9 : Nat) (f9 : Nat → Int32), u9 = [(qs, .inr (0, [.ref v9, .int 0, .int 0, .int 0])), (v9, .inl (cy 1, n9, .inl f9)), (q, .inr (1, [.ref v, .int 0, .int ml, .int (nI n9)])), (v, .inl (cy 1, cap, .inl f))] ∧ sb_Fit f9 ∧ ∀ j, j < n9 → f9 j = f j) (gAt D (cyT cy) (fun w9 : va_W => w9) B) B) args s 1 262 B) [(qs, .inr (0, [.null, .int 0, .int 0, .int 0])), (q, .inr (1, [.ref v, .int 0, .int ml, .int (nI n9)])), (v, .inl (cy 1, cap, .inl f))] 0 0 0 [(0, .ref qs), (1, .ref q), (2, .null)] [] := by
    refine g_aload_n X dJ0_init_db425_0 rfl 0 rfl ?_
    refine g_objI X (by decide +kernel) (by decide +kernel) (by decide +kernel) dJ0_init_db425_1 (by decide) (Nat.le_of_ble_eq_true rfl) ?_
    refine g_aload_n X dJ0_init_db425_4 rfl 1 rfl ?_
    refine w_afterQ (W1 := []) (w := [(qs, .inr (0, [.null, .int 0, .int 0, .int 0])), (q, .inr (1, [.ref v, .int 0, .int ml, .int (nI n9)])), (v, .inl (cy 1, cap, .inl f))]) (wc := [(q, .inr (1, [.ref v, .int 0, .int ml, .int (nI n9)]))]) (wr := [(qs, .inr (0, [.null, .int 0, .int 0, .int 0])), (v, .inl (cy 1, cap, .inl f))]) X (ZI_ok _ _ _ _ _ _ _ _) [1] [0, 2] rfl rfl rfl rfl (by decide) (hM := (t_getV (l := l) (D := D) (cy := cy) (aK := aK) (aO := aO) (aS := aS) (aV := aV) (aT := aT) (bS := bS) (bV := bV) (dA := dA) (q := q) (v := v) (ml := ml) (n := (nI n9)))) (st := []) (mcq := 0) (msq := 0) (a9 := ([.ref q] : List Value).toArray) (fun H locs ls hP hD hSs hl0 => ?_) ?_
    · exact va_runU (As := []) X.1 ((t_getV (l := l) (D := D) (cy := cy) (aK := aK) (aO := aO) (aS := aS) (aV := aV) (aT := aT) (bS := bS) (bV := bV) (dA := dA) (q := q) (v := v) (ml := ml) (n := (nI n9))) H.size) (va_cwU 0 X.1.2.2.2.2 gJ0_init_db425_J5_getValue_6d5f1_u552J4 rfl rfl rfl rfl (by decide +kernel) ⟨Nat.le_of_ble_eq_true rfl, Nat.le_of_ble_eq_true rfl⟩) ⟨gPre_blind (ZI_ok _ _ _ _ _ _ _ _), va_recv (q0 := 0) X.2.1 hP rfl rfl, (gPre_of (ZI_ok _ _ _ _ _ _ _ _) X.2.1 X.2.2.1 X.2.2.2.1 hP hD hSs).2⟩ rfl rfl hl0.1 rfl (lv_room (Nat.le_of_ble_eq_true rfl)) dJ0_init_db425_5 ⟨by show 0 + 0 ≤ 1; omega, by show 0 + 0 ≤ 262; omega⟩
    rintro r9 u9 ⟨rfl, rfl⟩
    refine g_weq (ws9 := [(qs, .inr (0, [.null, .int 0, .int 0, .int 0])), (v, .inl (cy 1, cap, .inl f)), (q, .inr (1, [.ref v, .int 0, .int ml, .int (nI n9)]))]) rfl ?_
    refine g_astore_n X dJ0_init_db425_8 rfl (by decide) (lv' := [(3, .ref v), (0, .ref qs), (1, .ref q), (2, .null)]) rfl ?_
    refine g_aload_n X dJ0_init_db425_9 rfl 2 rfl ?_
    refine w_afterI (W1 := []) (w := [(qs, .inr (0, [.null, .int 0, .int 0, .int 0])), (v, .inl (cy 1, cap, .inl f)), (q, .inr (1, [.ref v, .int 0, .int ml, .int (nI n9)]))]) (wc := [(q, .inr (1, [.ref v, .int 0, .int ml, .int (nI n9)]))]) (wr := [(qs, .inr (0, [.null, .int 0, .int 0, .int 0])), (v, .inl (cy 1, cap, .inl f))]) X (ZI_ok _ _ _ _ _ _ _ _) [2] [0, 1] rfl rfl rfl rfl (by decide) (hM := (t_blen (l := l) (D := D) (cy := cy) (aK := aK) (aO := aO) (aS := aS) (aV := aV) (aT := aT) (bS := bS) (bV := bV) (dA := dA) (q := q) (v := v) (ml := ml) (n := (nI n9)))) (st := []) (mcq := 0) (msq := 0) (a9 := ([.ref q] : List Value).toArray) (fun H locs ls hP hD hSs hl0 => ?_) ?_
    · exact va_runU (As := []) X.1 ((t_blen (l := l) (D := D) (cy := cy) (aK := aK) (aO := aO) (aS := aS) (aV := aV) (aT := aT) (bS := bS) (bV := bV) (dA := dA) (q := q) (v := v) (ml := ml) (n := (nI n9))) H.size) (va_cwO 0 X.1.2.2.2.2 gJ0_init_db425_J4_length_8abf5_u549J4 rfl rfl rfl (b0 := cJ5_length_8abf5) (m0 := 1) (r0 := (some .int)) (by decide +kernel) (by decide +kernel) ⟨Nat.le_of_ble_eq_true rfl, Nat.le_of_ble_eq_true rfl⟩) ⟨gPre_blind (ZI_ok _ _ _ _ _ _ _ _), va_recv (q0 := 0) X.2.1 hP rfl rfl, (gPre_of (ZI_ok _ _ _ _ _ _ _ _) X.2.1 X.2.2.1 X.2.2.2.1 hP hD hSs).2⟩ rfl rfl hl0.1 rfl (lv_room (Nat.le_of_ble_eq_true rfl)) dJ0_init_db425_10 ⟨by show 0 + 0 ≤ 1; omega, by show 0 + 0 ≤ 262; omega⟩
    rintro r9 u9 ⟨rfl, rfl⟩
    refine g_weq (ws9 := [(qs, .inr (0, [.null, .int 0, .int 0, .int 0])), (v, .inl (cy 1, cap, .inl f)), (q, .inr (1, [.ref v, .int 0, .int ml, .int (nI n9)]))]) rfl ?_
    refine g_istore X dJ0_init_db425_13 (by decide) (lv' := [(4, .int (nI n9)), (3, .ref v), (0, .ref qs), (1, .ref q), (2, .null)]) rfl ?_
    refine g_aload_n X dJ0_init_db425_15 rfl 3 rfl ?_
    refine w_afterI (W1 := []) (w := [(qs, .inr (0, [.null, .int 0, .int 0, .int 0])), (v, .inl (cy 1, cap, .inl f)), (q, .inr (1, [.ref v, .int 0, .int ml, .int (nI n9)]))]) (wc := [(q, .inr (1, [.ref v, .int 0, .int ml, .int (nI n9)]))]) (wr := [(qs, .inr (0, [.null, .int 0, .int 0, .int 0])), (v, .inl (cy 1, cap, .inl f))]) X (ZI_ok _ _ _ _ _ _ _ _) [2] [0, 1] rfl rfl rfl rfl (by decide) (hM := (t_isL (l := l) (D := D) (cy := cy) (aK := aK) (aO := aO) (aS := aS) (aV := aV) (aT := aT) (bS := bS) (bV := bV) (dA := dA) (q := q) (v := v) (ml := ml) (n := (nI n9)))) (st := []) (mcq := 0) (msq := 0) (a9 := ([.ref q] : List Value).toArray) (fun H locs ls hP hD hSs hl0 => ?_) ?_
    · exact va_runU (As := []) X.1 ((t_isL (l := l) (D := D) (cy := cy) (aK := aK) (aO := aO) (aS := aS) (aV := aV) (aT := aT) (bS := bS) (bV := bV) (dA := dA) (q := q) (v := v) (ml := ml) (n := (nI n9))) H.size) (va_cwU 0 X.1.2.2.2.2 gJ0_init_db425_J5_isLatin1_aae02_u1047J4 rfl rfl rfl rfl (by decide +kernel) ⟨Nat.le_of_ble_eq_true rfl, Nat.le_of_ble_eq_true rfl⟩) ⟨gPre_blind (ZI_ok _ _ _ _ _ _ _ _), va_recv (q0 := 0) X.2.1 hP rfl rfl, (gPre_of (ZI_ok _ _ _ _ _ _ _ _) X.2.1 X.2.2.1 X.2.2.2.1 hP hD hSs).2⟩ rfl rfl hl0.1 rfl (lv_room (Nat.le_of_ble_eq_true rfl)) dJ0_init_db425_16 ⟨by show 0 + 0 ≤ 1; omega, by show 0 + 0 ≤ 262; omega⟩
    rintro r9 u9 ⟨rfl, rfl⟩
    refine g_weq (ws9 := [(qs, .inr (0, [.null, .int 0, .int 0, .int 0])), (v, .inl (cy 1, cap, .inl f)), (q, .inr (1, [.ref v, .int 0, .int ml, .int (nI n9)]))]) rfl ?_
    refine g_if_eq X (tgt := 41) dJ0_init_db425_19 (by decide) (fun h9 => absurd h9 (by decide)) (fun _ => ?_)
    refine g_aload_n X dJ0_init_db425_22 rfl 2 rfl ?_
    refine g_iconst X dJ0_init_db425_23 (v := (0 : Int32)) (by decide) ?_
    refine g_putFK X 0 rfl lk1 rfl tyJ0 tyJ0_ok nmJ0 1 (by decide) lk0 (fun _ h9 => h9) rfl hnm rfl (ty := .byte) (v := .int (0 : Int32)) (by decide +kernel) (by decide +kernel) rfl (Nat.le_of_ble_eq_true rfl) dJ0_init_db425_24 (ws9 := [(qs, .inr (0, [.null, .int (0 : Int32), .int 0, .int 0])), (v, .inl (cy 1, cap, .inl f)), (q, .inr (1, [.ref v, .int 0, .int ml, .int (nI n9)]))]) rfl ?_
    refine g_aload_n X dJ0_init_db425_27 rfl 2 rfl ?_
    refine g_aload_n X dJ0_init_db425_28 rfl 1 rfl ?_
    refine g_iconst X dJ0_init_db425_29 (v := (0 : Int32)) (by decide) ?_
    refine g_iload X dJ0_init_db425_30 0 rfl ?_
    refine w_afterQ (W1 := []) (w := [(qs, .inr (0, [.null, .int (0 : Int32), .int 0, .int 0])), (v, .inl (cy 1, cap, .inl f)), (q, .inr (1, [.ref v, .int 0, .int ml, .int (nI n9)]))]) (wc := [(v, .inl (cy 1, cap, .inl f))]) (wr := [(qs, .inr (0, [.null, .int (0 : Int32), .int 0, .int 0])), (q, .inr (1, [.ref v, .int 0, .int ml, .int (nI n9)]))]) X (ZI_ok _ _ _ _ _ _ _ _) [1] [0, 2] rfl rfl rfl rfl (by decide) (hM := (t_cpR (l := l) (D := D) (cy := cy) (aK := aK) (aO := aO) (aS := aS) (aV := aV) (aT := aT) (bS := bS) (bV := bV) (dA := dA) (v := v) (cap := cap) (n9 := n9) (f := f) hn hcap hf)) (st := [.ref qs]) (mcq := 1) (msq := 262) (a9 := ([.ref v, .int (0 : Int32), .int (nI n9)] : List Value).toArray) (fun H locs ls hP hD hSs hl0 => ?_) ?_
    · exact va_runS (As := [.ref v, .int (0 : Int32), .int (nI n9)]) X.1 ((t_cpR (l := l) (D := D) (cy := cy) (aK := aK) (aO := aO) (aS := aS) (aV := aV) (aT := aT) (bS := bS) (bV := bV) (dA := dA) (v := v) (cap := cap) (n9 := n9) (f := f) hn hcap hf) H.size) (va_cwS 3 X.1.2.2.2.2 gJ0_init_db425_J7_copyOfRange_39247 rfl rfl rfl (by decide +kernel) ⟨Nat.le_of_ble_eq_true rfl, Nat.le_of_ble_eq_true rfl⟩) ⟨gPre_blind (ZI_ok _ _ _ _ _ _ _ _), (gPre_of (ZI_ok _ _ _ _ _ _ _ _) X.2.1 X.2.2.1 X.2.2.2.1 hP hD hSs).2⟩ rfl rfl hl0.1 rfl (lv_room (Nat.le_of_ble_eq_true rfl)) dJ0_init_db425_32 ⟨by show 0 + 1 ≤ 1; omega, by show 0 + 262 ≤ 262; omega⟩
    rintro r9 u9 ⟨q9, f9, rfl, rfl, hf9, hk9⟩
    refine g_weq (ws9 := [(qs, .inr (0, [.null, .int (0 : Int32), .int 0, .int 0])), (q, .inr (1, [.ref v, .int 0, .int ml, .int (nI n9)])), (v, .inl (cy 1, cap, .inl f)), (q9, .inl (cy 1, n9, .inl f9))]) rfl ?_
    refine g_putFK X 0 rfl lk1 rfl tyJ0 tyJ0_ok nmJ0 0 (by decide) lk2 (fun _ h9 => h9) rfl hnm rfl (ty := (.array .byte)) (v := .ref q9) (by decide +kernel) rfl rfl (Nat.le_of_ble_eq_true rfl) dJ0_init_db425_35 (ws9 := [(qs, .inr (0, [.ref q9, .int (0 : Int32), .int 0, .int 0])), (q, .inr (1, [.ref v, .int 0, .int ml, .int (nI n9)])), (v, .inl (cy 1, cap, .inl f)), (q9, .inl (cy 1, n9, .inl f9))]) rfl ?_
    refine g_goto X (tgt := 97) dJ0_init_db425_38 (by decide) ?_
    refine g_pos (ws9 := [(qs, .inr (0, [.ref q9, .int (0 : Int32), .int 0, .int 0])), (q9, .inl (cy 1, n9, .inl f9)), (q, .inr (1, [.ref v, .int 0, .int ml, .int (nI n9)])), (v, .inl (cy 1, cap, .inl f))]) [0, 3, 1, 2] (by decide) rfl ?_
    refine g_wid (k' := 1) (n' := 262) (by omega) (by omega) ?_
    exact g_vret (Wf := fun w9 : va_W => w9) (u := [(qs, .inr (0, [.ref q9, .int (0 : Int32), .int 0, .int 0])), (q9, .inl (cy 1, n9, .inl f9)), (q, .inr (1, [.ref v, .int 0, .int ml, .int (nI n9)])), (v, .inl (cy 1, cap, .inl f))]) X (⟨_, _, rfl, hf9, hk9⟩) dJ0_init_db425_97
  exact K0
abbrev rmS_sinb : Room := { frames := 4, cells := 1, slots := 262, locals := 150 }
set_option maxHeartbeats 4000000 in
set_option maxRecDepth 100000 in
theorem t_sinb {qs q v cap n9 : Nat} {ml : Int32} {f : Nat → Int32} (hn : n9 ≤ cap) (hcap : cap ≤ 262) (hf : sb_Fit f) : cW0 (ZI aK aO aS aV aT bS bV dA) D (cyT cy) l yJ0_init_81219 wsJ0_init_81219 rmS_sinb [(qs, .inr (0, [.null, .int 0, .int 0, .int 0])), (q, .inr (1, [.ref v, .int 0, .int ml, .int (nI n9)])), (v, .inl (cy 1, cap, .inl f))] [.ref qs, .ref q] (fun u9 => ∃ (v9 : Nat) (f9 : Nat → Int32), u9 = [(qs, .inr (0, [.ref v9, .int 0, .int 0, .int 0])), (v9, .inl (cy 1, n9, .inl f9)), (q, .inr (1, [.ref v, .int 0, .int ml, .int (nI n9)])), (v, .inl (cy 1, cap, .inl f))] ∧ sb_Fit f9 ∧ ∀ j, j < n9 → f9 j = f j) 1 262 := by
  refine cW0_of (cc := cJ0_init_81219) (maxL := 2) (ret := none) (by decide) rfl (Nat.le_of_ble_eq_true rfl) (fun p e s m args below meth c B X hnm => ?_)
  have lk0 : Cond.initialized RJ0 ∈ wsJ0_init_81219 := by decide +kernel
  have lk1 : Cond.methodLink RJ0 489 yJ0_init_db425 ∈ wsJ0_init_81219 := by decide +kernel
  have lk2 : Cond.instanceMethod yJ0_init_db425 ∈ wsJ0_init_81219 := by decide +kernel
  have K0 : gG p l e rmS_sinb s m args below meth c D (cyT cy) B 2 (MQ below (va_Qv (fun u9 => ∃ (v9 : Nat) (f9 : Nat → Int32), u9 = [(qs, .inr (0, [.ref v9, .int 0, .int 0, .int 0])), (v9, .inl (cy 1, n9, .inl f9)), (q, .inr (1, [.ref v, .int 0, .int ml, .int (nI n9)])), (v, .inl (cy 1, cap, .inl f))] ∧ sb_Fit f9 ∧ ∀ j, j < n9 → f9 j = f j) (gAt D (cyT cy) (fun w9 : va_W => w9) B) B) args s 1 262 B) [(qs, .inr (0, [.null, .int 0, .int 0, .int 0])), (q, .inr (1, [.ref v, .int 0, .int ml, .int (nI n9)])), (v, .inl (cy 1, cap, .inl f))] 0 0 0 [(0, .ref qs), (1, .ref q)] [] := by
    refine g_aload_n X dJ0_init_81219_0 rfl 0 rfl ?_
    refine g_aload_n X dJ0_init_81219_1 rfl 1 rfl ?_
    refine g_null X dJ0_init_81219_2 ?_
    refine w_afterV (W1 := []) (w := [(qs, .inr (0, [.null, .int 0, .int 0, .int 0])), (q, .inr (1, [.ref v, .int 0, .int ml, .int (nI n9)])), (v, .inl (cy 1, cap, .inl f))]) (wc := [(qs, .inr (0, [.null, .int 0, .int 0, .int 0])), (q, .inr (1, [.ref v, .int 0, .int ml, .int (nI n9)])), (v, .inl (cy 1, cap, .inl f))]) (wr := []) X (ZI_ok _ _ _ _ _ _ _ _) [0, 1, 2] [] rfl rfl rfl rfl (by decide) (hM := (t_sini (l := l) (D := D) (cy := cy) (aK := aK) (aO := aO) (aS := aS) (aV := aV) (aT := aT) (bS := bS) (bV := bV) (dA := dA) (qs := qs) (q := q) (v := v) (cap := cap) (n9 := n9) (ml := ml) (f := f) hn hcap hf)) (st := []) (mcq := 1) (msq := 262) (a9 := ([.ref qs, .ref q, .null] : List Value).toArray) (fun H locs ls hP hD hSs hl0 => ?_) ?_
    · exact va_runI (As := [.ref q, .null]) X.1 ((t_sini (l := l) (D := D) (cy := cy) (aK := aK) (aO := aO) (aS := aS) (aV := aV) (aT := aT) (bS := bS) (bV := bV) (dA := dA) (qs := qs) (q := q) (v := v) (cap := cap) (n9 := n9) (ml := ml) (f := f) hn hcap hf) H.size) (cwI 2 X.1.2.2.2.2 gJ0_init_81219_J0_init_db425 rfl rfl rfl (X.1.2.2.2.2 _ lk0) (X.1.2.2.2.2 _ lk1) (X.1.2.2.2.2 _ lk2) rfl (by decide +kernel) ⟨Nat.le_of_ble_eq_true rfl, Nat.le_of_ble_eq_true rfl⟩) ⟨gPre_blind (ZI_ok _ _ _ _ _ _ _ _), (gPre_of (ZI_ok _ _ _ _ _ _ _ _) X.2.1 X.2.2.1 X.2.2.2.1 hP hD hSs).2⟩ rfl rfl hl0.1 rfl (lv_room (Nat.le_of_ble_eq_true rfl)) dJ0_init_81219_3 ⟨by show 0 + 1 ≤ 1; omega, by show 0 + 262 ≤ 262; omega⟩
    rintro u9 ⟨v9, f9, rfl, h9⟩
    refine g_weq (ws9 := [(qs, .inr (0, [.ref v9, .int 0, .int 0, .int 0])), (v9, .inl (cy 1, n9, .inl f9)), (q, .inr (1, [.ref v, .int 0, .int ml, .int (nI n9)])), (v, .inl (cy 1, cap, .inl f))]) rfl ?_
    refine g_wid (k' := 1) (n' := 262) (by omega) (by omega) ?_
    exact g_vret (Wf := fun w9 : va_W => w9) (u := [(qs, .inr (0, [.ref v9, .int 0, .int 0, .int 0])), (v9, .inl (cy 1, n9, .inl f9)), (q, .inr (1, [.ref v, .int 0, .int ml, .int (nI n9)])), (v, .inl (cy 1, cap, .inl f))]) X (⟨_, _, rfl, h9⟩) dJ0_init_81219_6
  exact K0
abbrev rmS_toS : Room := { frames := 5, cells := 2, slots := 266, locals := 171 }
set_option maxHeartbeats 4000000 in
set_option maxRecDepth 100000 in
theorem t_toS {q v cap n9 : Nat} {ml : Int32} {f : Nat → Int32} (hn : n9 ≤ cap) (hcap : cap ≤ 262) (hf : sb_Fit f) : cQ (ZI aK aO aS aV aT bS bV dA) D (cyT cy) l yJ4_toString_0e30d wsJ4_toString_0e30d rmS_toS [(q, .inr (1, [.ref v, .int 0, .int ml, .int (nI n9)])), (v, .inl (cy 1, cap, .inl f))] [.ref q] (fun r9 u9 => ∃ (q9 v9 : Nat) (f9 : Nat → Int32), r9 = some q9 ∧ u9 = [(q9, .inr (0, [.ref v9, .int 0, .int 0, .int 0])), (v9, .inl (cy 1, n9, .inl f9))] ∧ sb_Fit f9 ∧ ∀ j, j < n9 → f9 j = f j) 2 266 := by
  refine cQ_of (cc := cJ4_toString_0e30d) (maxL := 1) (ret := (some (.object "java/lang/String"))) (by decide) rfl (Nat.le_of_ble_eq_true rfl) (fun p e s m args below meth c B X hnm => ?_)
  have lk0 : ∀ w ∈ wsJ00, w ∈ wsJ4_toString_0e30d := by decide +kernel
  have lk1 : Cond.initialized RJ0 ∈ wsJ4_toString_0e30d := by decide +kernel
  have lk2 : Cond.methodLink RJ4 137 yJ0_init_81219 ∈ wsJ4_toString_0e30d := by decide +kernel
  have lk3 : Cond.instanceMethod yJ0_init_81219 ∈ wsJ4_toString_0e30d := by decide +kernel
  have K0 : gG p l e rmS_toS s m args below meth c D (cyT cy) B 1 (MQ below (va_Qq (fun r9 u9 => ∃ (q9 v9 : Nat) (f9 : Nat → Int32), r9 = some q9 ∧ u9 = [(q9, .inr (0, [.ref v9, .int 0, .int 0, .int 0])), (v9, .inl (cy 1, n9, .inl f9))] ∧ sb_Fit f9 ∧ ∀ j, j < n9 → f9 j = f j) (gAt D (cyT cy) (fun w9 : va_W => w9) B) B) args s 2 266 B) [(q, .inr (1, [.ref v, .int 0, .int ml, .int (nI n9)])), (v, .inl (cy 1, cap, .inl f))] 0 0 0 [(0, .ref q)] [] := by
    refine g_new X (fs := [.null, .int 0, .int 0, .int 0]) lk0 tyJ0 tyJ0_ok (by decide +kernel) (by decide +kernel) (by decide +kernel) (ci := 0) rfl (fun j hj => by match j, hj with | 0, _ => rfl | 1, _ => rfl | 2, _ => rfl | 3, _ => rfl) (by show 0 + 1 ≤ 2; omega) (by show 0 + 4 ≤ 266; omega) dJ4_toString_0e30d_0 (fun q_1 => ?_)
    refine g_weq (ws9 := [(q, .inr (1, [.ref v, .int 0, .int ml, .int (nI n9)])), (v, .inl (cy 1, cap, .inl f)), (q_1, .inr (0, [.null, .int 0, .int 0, .int 0]))]) rfl ?_
    refine g_dup X dJ4_toString_0e30d_3 rfl ?_
    refine g_aload_n X dJ4_toString_0e30d_4 rfl 0 rfl ?_
    refine w_afterV (W1 := []) (w := [(q, .inr (1, [.ref v, .int 0, .int ml, .int (nI n9)])), (v, .inl (cy 1, cap, .inl f)), (q_1, .inr (0, [.null, .int 0, .int 0, .int 0]))]) (wc := [(q_1, .inr (0, [.null, .int 0, .int 0, .int 0])), (q, .inr (1, [.ref v, .int 0, .int ml, .int (nI n9)])), (v, .inl (cy 1, cap, .inl f))]) (wr := []) X (ZI_ok _ _ _ _ _ _ _ _) [2, 0, 1] [] rfl rfl rfl rfl (by decide) (hM := (t_sinb (l := l) (D := D) (cy := cy) (aK := aK) (aO := aO) (aS := aS) (aV := aV) (aT := aT) (bS := bS) (bV := bV) (dA := dA) (qs := q_1) (q := q) (v := v) (cap := cap) (n9 := n9) (ml := ml) (f := f) hn hcap hf)) (st := [.ref q_1]) (mcq := 1) (msq := 262) (a9 := ([.ref q_1, .ref q] : List Value).toArray) (fun H locs ls hP hD hSs hl0 => ?_) ?_
    · exact va_runI (As := [.ref q]) X.1 ((t_sinb (l := l) (D := D) (cy := cy) (aK := aK) (aO := aO) (aS := aS) (aV := aV) (aT := aT) (bS := bS) (bV := bV) (dA := dA) (qs := q_1) (q := q) (v := v) (cap := cap) (n9 := n9) (ml := ml) (f := f) hn hcap hf) H.size) (cwI 1 X.1.2.2.2.2 gJ4_toString_0e30d_J0_init_81219 rfl rfl rfl (X.1.2.2.2.2 _ lk1) (X.1.2.2.2.2 _ lk2) (X.1.2.2.2.2 _ lk3) rfl (by decide +kernel) ⟨Nat.le_of_ble_eq_true rfl, Nat.le_of_ble_eq_true rfl⟩) ⟨gPre_blind (ZI_ok _ _ _ _ _ _ _ _), (gPre_of (ZI_ok _ _ _ _ _ _ _ _) X.2.1 X.2.2.1 X.2.2.2.1 hP hD hSs).2⟩ rfl rfl hl0.1 rfl (lv_room (Nat.le_of_ble_eq_true rfl)) dJ4_toString_0e30d_5 ⟨by show 1 + 1 ≤ 2; omega, by show 0 + 4 + 262 ≤ 266; omega⟩
    rintro u9 ⟨v9, f9, rfl, h9⟩
    refine g_weq (ws9 := [(q_1, .inr (0, [.ref v9, .int 0, .int 0, .int 0])), (v9, .inl (cy 1, n9, .inl f9)), (q, .inr (1, [.ref v, .int 0, .int ml, .int (nI n9)])), (v, .inl (cy 1, cap, .inl f))]) rfl ?_
    refine g_pos (ws9 := [(q_1, .inr (0, [.ref v9, .int 0, .int 0, .int 0])), (v9, .inl (cy 1, n9, .inl f9))]) [0, 1] (by decide) rfl ?_
    refine g_wid (k' := 2) (n' := 266) (by omega) (by omega) ?_
    exact g_aret (Wf := fun w9 : va_W => w9) (u := [(q_1, .inr (0, [.ref v9, .int 0, .int 0, .int 0])), (v9, .inl (cy 1, n9, .inl f9))]) X (Or.inl ⟨_, rfl⟩) (⟨_, _, _, rfl, rfl, h9⟩) dJ4_toString_0e30d_8
  exact K0
theorem gPreI_up {tys : List (ClassId × FieldType)} {av : List Value} {W9 : va_W} {sz : Nat} {a : Array Value} {s : State} (h : va_Pc av (gPre (ZI aK aO aS aV aT bS bV dA) D tys W9 sz) a s) : va_Pc av (gPre (ZC aK aO aS aV aT) D tys W9 sz) a s := ⟨h.1, h.2.1, h.2.2.1, h.2.2.2.1, h.2.2.2.2.1, h.2.2.2.2.2.1.1⟩
theorem t_chk {a b : Int32} (h0 : ¬ a < 0) (h1 : a < b) : cW0 (ZI aK aO aS aV aT bS bV dA) D (cyT cy) l yJ0_checkIndex_df160 wsJ0_checkIndex_df160 (rmJ 1 22) [] [.int a, .int b] (fun u9 => u9 = []) 0 0 := fun sz => Met_pre (m_schk (Wf := fun w9 : va_W => w9) (σ := []) h0 h1 sz) fun _ _ h => gPreI_up h
abbrev rmS_lch : Room := { frames := 2, cells := 0, slots := 0, locals := 43 }
set_option maxHeartbeats 4000000 in
set_option maxRecDepth 100000 in
theorem t_lch {vs ns j9 : Nat} {fs : Nat → Int32} (hj : j9 < ns) (hns : ns ≤ 262) {c9 : Nat} (hc9 : c9 < 128) (hch : fs j9 = nI c9) : cI (ZI aK aO aS aV aT bS bV dA) D (cyT cy) l yJ1_charAt_3b067 wsJ1_charAt_3b067 rmS_lch [(vs, .inl (cy 1, ns, .inl fs))] [.ref vs, .int (nI j9)] (fun r9 u9 => r9 = nI c9 ∧ u9 = [(vs, .inl (cy 1, ns, .inl fs))]) 0 0 := by
  refine cI_of (cc := cJ1_charAt_3b067) (maxL := 2) (ret := (some .char)) (by decide) rfl (Nat.le_of_ble_eq_true rfl) (fun p e s m args below meth c B X hnm => ?_)
  have K0 : gG p l e rmS_lch s m args below meth c D (cyT cy) B 2 (MQ below (va_Qi (fun r9 u9 => r9 = nI c9 ∧ u9 = [(vs, .inl (cy 1, ns, .inl fs))]) (gAt D (cyT cy) (fun w9 : va_W => w9) B) B) args s 0 0 B) [(vs, .inl (cy 1, ns, .inl fs))] 0 0 0 [(0, .ref vs), (1, .int (nI j9))] [] := by
    refine g_iload_n X dJ1_charAt_3b067_0 rfl 1 rfl ?_
    refine g_aload_n X dJ1_charAt_3b067_1 rfl 0 rfl ?_
    refine g_alenK X 0 1 rfl rfl (v := nI ns) rfl dJ1_charAt_3b067_2 ?_
    refine w_afterV (W1 := []) (w := [(vs, .inl (cy 1, ns, .inl fs))]) (wc := []) (wr := [(vs, .inl (cy 1, ns, .inl fs))]) X (ZI_ok _ _ _ _ _ _ _ _) [] [0] rfl rfl rfl rfl (by decide) (hM := (t_chk (l := l) (D := D) (cy := cy) (aK := aK) (aO := aO) (aS := aS) (aV := aV) (aT := aT) (bS := bS) (bV := bV) (dA := dA) (a := nI j9) (b := nI ns) (nI_nn (by omega)) (by rw [nq_lt (by omega) (by omega)]; exact hj))) (st := []) (mcq := 0) (msq := 0) (a9 := ([.int (nI j9), .int (nI ns)] : List Value).toArray) (fun H locs ls hP hD hSs hl0 => ?_) ?_
    · exact va_runS (As := [.int (nI j9), .int (nI ns)]) X.1 ((t_chk (l := l) (D := D) (cy := cy) (aK := aK) (aO := aO) (aS := aS) (aV := aV) (aT := aT) (bS := bS) (bV := bV) (dA := dA) (a := nI j9) (b := nI ns) (nI_nn (by omega)) (by rw [nq_lt (by omega) (by omega)]; exact hj)) H.size) (va_cwS 2 X.1.2.2.2.2 gJ1_charAt_3b067_J0_checkIndex_df160 rfl rfl rfl (by decide +kernel) ⟨Nat.le_of_ble_eq_true rfl, Nat.le_of_ble_eq_true rfl⟩) ⟨gPre_blind (ZI_ok _ _ _ _ _ _ _ _), (gPre_of (ZI_ok _ _ _ _ _ _ _ _) X.2.1 X.2.2.1 X.2.2.2.1 hP hD hSs).2⟩ rfl rfl hl0.1 rfl (lv_room (Nat.le_of_ble_eq_true rfl)) dJ1_charAt_3b067_3 ⟨by show 0 + 0 ≤ 0; omega, by show 0 + 0 ≤ 0; omega⟩
    rintro u9 rfl
    refine g_weq (ws9 := [(vs, .inl (cy 1, ns, .inl fs))]) rfl ?_
    refine g_aload_n X dJ1_charAt_3b067_6 rfl 0 rfl ?_
    refine g_iload_n X dJ1_charAt_3b067_7 rfl 1 rfl ?_
    refine g_baldK X 0 1 rfl rfl (nI_vin (by omega) hj) dJ1_charAt_3b067_8 ?_
    refine g_top (y := nI c9) (by rw [nq_clamp (by omega)]; exact hch) ?_
    refine g_sipush X dJ1_charAt_3b067_9 (v := (255 : Int32)) (by decide) ?_
    refine g_iand X dJ1_charAt_3b067_12 ?_
    refine g_top (y := nI c9) (and_b hc9) ?_
    refine g_i2c X dJ1_charAt_3b067_13 (v := nI c9) (i2c_b hc9) ?_
    exact g_zret (Wf := fun w9 : va_W => w9) (u := [(vs, .inl (cy 1, ns, .inl fs))]) X (chr_b hc9) (⟨rfl, rfl⟩) dJ1_charAt_3b067_14
  exact K0
abbrev rmS_hch : Room := { frames := 3, cells := 0, slots := 0, locals := 64 }
set_option maxHeartbeats 4000000 in
set_option maxRecDepth 100000 in
theorem t_hch {qs : Nat} {h9 z9 : Int32} {vs ns j9 : Nat} {fs : Nat → Int32} (hj : j9 < ns) (hns : ns ≤ 262) {c9 : Nat} (hc9 : c9 < 128) (hch : fs j9 = nI c9) : cI (ZI aK aO aS aV aT bS bV dA) D (cyT cy) l yJ0_charAt_5068e wsJ0_charAt_5068e rmS_hch [(qs, .inr (0, [.ref vs, .int 0, .int h9, .int z9])), (vs, .inl (cy 1, ns, .inl fs))] [.ref qs, .int (nI j9)] (fun r9 u9 => r9 = nI c9 ∧ u9 = [(qs, .inr (0, [.ref vs, .int 0, .int h9, .int z9])), (vs, .inl (cy 1, ns, .inl fs))]) 0 0 := by
  refine cI_of (cc := cJ0_charAt_5068e) (maxL := 2) (ret := (some .char)) (by decide) rfl (Nat.le_of_ble_eq_true rfl) (fun p e s m args below meth c B X hnm => ?_)
  have lk0 : Cond.fieldLink RJ0 9 "java/lang/String" "value" "[B" ∈ wsJ0_charAt_5068e := by decide +kernel
  have lk1 : ∀ w ∈ wsJ00, w ∈ wsJ0_charAt_5068e := by decide +kernel
  have K0 : gG p l e rmS_hch s m args below meth c D (cyT cy) B 2 (MQ below (va_Qi (fun r9 u9 => r9 = nI c9 ∧ u9 = [(qs, .inr (0, [.ref vs, .int 0, .int h9, .int z9])), (vs, .inl (cy 1, ns, .inl fs))]) (gAt D (cyT cy) (fun w9 : va_W => w9) B) B) args s 0 0 B) [(qs, .inr (0, [.ref vs, .int 0, .int h9, .int z9])), (vs, .inl (cy 1, ns, .inl fs))] 0 0 0 [(0, .ref qs), (1, .int (nI j9))] [] := by
    refine g_aload_n X dJ0_charAt_5068e_0 rfl 0 rfl ?_
    refine w_afterI (W1 := []) (w := [(qs, .inr (0, [.ref vs, .int 0, .int h9, .int z9])), (vs, .inl (cy 1, ns, .inl fs))]) (wc := [(qs, .inr (0, [.ref vs, .int 0, .int h9, .int z9]))]) (wr := [(vs, .inl (cy 1, ns, .inl fs))]) X (ZI_ok _ _ _ _ _ _ _ _) [0] [1] rfl rfl rfl rfl (by decide) (hM := (t_sL (l := l) (D := D) (cy := cy) (aK := aK) (aO := aO) (aS := aS) (aV := aV) (aT := aT) (bS := bS) (bV := bV) (dA := dA) (q := qs) (v := vs) (h9 := h9) (z9 := z9))) (st := []) (mcq := 0) (msq := 0) (a9 := ([.ref qs] : List Value).toArray) (fun H locs ls hP hD hSs hl0 => ?_) ?_
    · exact va_runV (As := []) X.1 ((t_sL (l := l) (D := D) (cy := cy) (aK := aK) (aO := aO) (aS := aS) (aV := aV) (aT := aT) (bS := bS) (bV := bV) (dA := dA) (q := qs) (v := vs) (h9 := h9) (z9 := z9)) H.size) (cwV 0 X.1.2.2.2.2 gJ0_charAt_5068e_J0_isLatin1_aae02 rfl rfl rfl (by decide +kernel) ⟨Nat.le_of_ble_eq_true rfl, Nat.le_of_ble_eq_true rfl⟩) ⟨gPre_blind (ZI_ok _ _ _ _ _ _ _ _), va_recv (q0 := 0) X.2.1 hP rfl rfl, (gPre_of (ZI_ok _ _ _ _ _ _ _ _) X.2.1 X.2.2.1 X.2.2.2.1 hP hD hSs).2⟩ rfl rfl hl0.1 rfl (lv_room (Nat.le_of_ble_eq_true rfl)) dJ0_charAt_5068e_1 ⟨by show 0 + 0 ≤ 0; omega, by show 0 + 0 ≤ 0; omega⟩
    rintro r9 u9 ⟨rfl, rfl⟩
    refine g_weq (ws9 := [(vs, .inl (cy 1, ns, .inl fs)), (qs, .inr (0, [.ref vs, .int 0, .int h9, .int z9]))]) rfl ?_
    refine g_if_eq X (tgt := 16) dJ0_charAt_5068e_4 (by decide) (fun h9 => absurd h9 (by decide)) (fun _ => ?_)
    refine g_aload_n X dJ0_charAt_5068e_7 rfl 0 rfl ?_
    refine g_getK X 1 rfl lk1 rfl 0 (by decide) lk0 (fun _ h9 => h9) rfl dJ0_charAt_5068e_8 ?_
    refine g_iload_n X dJ0_charAt_5068e_11 rfl 1 rfl ?_
    refine w_afterI (W1 := []) (w := [(vs, .inl (cy 1, ns, .inl fs)), (qs, .inr (0, [.ref vs, .int 0, .int h9, .int z9]))]) (wc := [(vs, .inl (cy 1, ns, .inl fs))]) (wr := [(qs, .inr (0, [.ref vs, .int 0, .int h9, .int z9]))]) X (ZI_ok _ _ _ _ _ _ _ _) [0] [1] rfl rfl rfl rfl (by decide) (hM := (t_lch (l := l) (D := D) (cy := cy) (aK := aK) (aO := aO) (aS := aS) (aV := aV) (aT := aT) (bS := bS) (bV := bV) (dA := dA) (vs := vs) (ns := ns) (j9 := j9) (fs := fs) hj hns hc9 hch)) (st := []) (mcq := 0) (msq := 0) (a9 := ([.ref vs, .int (nI j9)] : List Value).toArray) (fun H locs ls hP hD hSs hl0 => ?_) ?_
    · exact va_runS (As := [.ref vs, .int (nI j9)]) X.1 ((t_lch (l := l) (D := D) (cy := cy) (aK := aK) (aO := aO) (aS := aS) (aV := aV) (aT := aT) (bS := bS) (bV := bV) (dA := dA) (vs := vs) (ns := ns) (j9 := j9) (fs := fs) hj hns hc9 hch) H.size) (va_cwS 2 X.1.2.2.2.2 gJ0_charAt_5068e_J1_charAt_3b067 rfl rfl rfl (by decide +kernel) ⟨Nat.le_of_ble_eq_true rfl, Nat.le_of_ble_eq_true rfl⟩) ⟨gPre_blind (ZI_ok _ _ _ _ _ _ _ _), (gPre_of (ZI_ok _ _ _ _ _ _ _ _) X.2.1 X.2.2.1 X.2.2.2.1 hP hD hSs).2⟩ rfl rfl hl0.1 rfl (lv_room (Nat.le_of_ble_eq_true rfl)) dJ0_charAt_5068e_12 ⟨by show 0 + 0 ≤ 0; omega, by show 0 + 0 ≤ 0; omega⟩
    rintro r9 u9 ⟨rfl, rfl⟩
    refine g_weq (ws9 := [(qs, .inr (0, [.ref vs, .int 0, .int h9, .int z9])), (vs, .inl (cy 1, ns, .inl fs))]) rfl ?_
    exact g_zret (Wf := fun w9 : va_W => w9) (u := [(qs, .inr (0, [.ref vs, .int 0, .int h9, .int z9])), (vs, .inl (cy 1, ns, .inl fs))]) X (chr_b hc9) (⟨rfl, rfl⟩) dJ0_charAt_5068e_15
  exact K0
end TM
