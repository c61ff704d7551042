/-! the JDK's methods on texts: contracts over their own cells -/
section TM
variable {l : Launch} {D : va_G} {cy : Nat → ClassId} {aK aO aS aV aT bS bV dA : Nat → Nat}
abbrev rmS_inflT : Room := { frames := 1, cells := 0, slots := 0, locals := 20 }
set_option maxHeartbeats 4000000 in
set_option maxRecDepth 100000 in
theorem t_inflT {q v : Nat} {ml n : Int32} {i : Nat} (hi : i < 11) : cW0 (ZI aK aO aS aV aT bS bV dA) D (cyT cy) l yJ5_inflateIfNeededFor_a7421 wsJ5_inflateIfNeededFor_a7421 rmS_inflT [(q, .inr (1, [.ref v, .int 0, .int ml, .int n]))] [.ref q, .ref (bS i)] (fun u9 => u9 = [(q, .inr (1, [.ref v, .int 0, .int ml, .int n]))]) 0 0 := by
  refine cW0_of (cc := cJ5_inflateIfNeededFor_a7421) (maxL := 2) (ret := none) (by decide) rfl (Nat.le_of_ble_eq_true rfl) (fun p e s m args below meth c B X hnm => ?_)
  have lk0 : Cond.fieldLink RJ5 18 "java/lang/String" "COMPACT_STRINGS" "Z" ∈ wsJ5_inflateIfNeededFor_a7421 := by decide +kernel
  have lk1 : Cond.fieldLink RJ5 22 "java/lang/AbstractStringBuilder" "coder" "B" ∈ wsJ5_inflateIfNeededFor_a7421 := by decide +kernel
  have lk2 : ∀ w ∈ wsJ40, w ∈ wsJ5_inflateIfNeededFor_a7421 := by decide +kernel
  have K0 : gG p l e rmS_inflT s m args below meth c D (cyT cy) B 2 (MQ below (va_Qv (fun u9 => u9 = [(q, .inr (1, [.ref v, .int 0, .int ml, .int n]))]) (gAt D (cyT cy) (fun w9 : va_W => w9) B) B) args s 0 0 B) [(q, .inr (1, [.ref v, .int 0, .int ml, .int n]))] 0 0 0 [(0, .ref q), (1, .ref (bS i))] [] := by
    refine g_sCS (gC_ZC X) lk0 dJ5_inflateIfNeededFor_a7421_0 ?_
    refine g_if_eq X (tgt := 21) dJ5_inflateIfNeededFor_a7421_3 (by decide) (fun h9 => absurd h9 (by decide)) (fun _ => ?_)
    refine g_aload_n X dJ5_inflateIfNeededFor_a7421_6 rfl 0 rfl ?_
    refine g_getK X 0 rfl lk2 rfl 1 (by decide) lk1 (fun _ h9 => h9) rfl dJ5_inflateIfNeededFor_a7421_7 ?_
    refine g_aload_n X dJ5_inflateIfNeededFor_a7421_10 rfl 1 rfl ?_
    refine w_afterI (W1 := []) (w := [(q, .inr (1, [.ref v, .int 0, .int ml, .int n]))]) (wc := []) (wr := [(q, .inr (1, [.ref v, .int 0, .int ml, .int n]))]) X (ZI_ok _ _ _ _ _ _ _ _) [] [0] rfl rfl rfl rfl (by decide) (hM := (t_codT (l := l) (D := D) (cy := cy) (aK := aK) (aO := aO) (aS := aS) (aV := aV) (aT := aT) (bS := bS) (bV := bV) (dA := dA) (i := i) hi)) (st := [.int 0]) (mcq := 0) (msq := 0) (a9 := ([.ref (bS i)] : List Value).toArray) (fun H locs ls hP hD hSs hl0 => ?_) ?_
    · exact va_runV (As := []) X.1 ((t_codT (l := l) (D := D) (cy := cy) (aK := aK) (aO := aO) (aS := aS) (aV := aV) (aT := aT) (bS := bS) (bV := bV) (dA := dA) (i := i) hi) H.size) (cwV 0 X.1.2.2.2.2 gJ5_inflateIfNeededFor_a7421_J0_coder_7d493 rfl rfl rfl (by decide +kernel) ⟨Nat.le_of_ble_eq_true rfl, Nat.le_of_ble_eq_true rfl⟩) ⟨gPre_blind (ZI_ok _ _ _ _ _ _ _ _), t_recv X hi hSs, (gPre_of (ZI_ok _ _ _ _ _ _ _ _) X.2.1 X.2.2.1 X.2.2.2.1 hP hD hSs).2⟩ rfl rfl hl0.1 rfl (lv_room (Nat.le_of_ble_eq_true rfl)) dJ5_inflateIfNeededFor_a7421_11 ⟨by show 0 + 0 ≤ 0; omega, by show 0 + 0 ≤ 0; omega⟩
    rintro r9 u9 ⟨rfl, rfl⟩
    refine g_weq (ws9 := [(q, .inr (1, [.ref v, .int 0, .int ml, .int n]))]) rfl ?_
    refine g_icmp_eq X (tgt := 21) dJ5_inflateIfNeededFor_a7421_14 (by decide) (fun _ => ?_) (fun h9 => absurd (rfl) h9)
    exact g_vret (Wf := fun w9 : va_W => w9) (u := [(q, .inr (1, [.ref v, .int 0, .int ml, .int n]))]) X (rfl) dJ5_inflateIfNeededFor_a7421_21
  exact K0
abbrev rmS_getBT : Room := { frames := 1, cells := 0, slots := 0, locals := 80 }
set_option maxHeartbeats 4000000 in
set_option maxRecDepth 100000 in
theorem t_getBT {v cap i9 : Nat} {f : Nat → Int32} {i : Nat} (hi : i < 11) (hcp : i9 + (tL i) ≤ cap) (hcap : cap ≤ 262) : cW0 (ZI aK aO aS aV aT bS bV dA) D (cyT cy) l yJ0_getBytes_840e7 wsJ0_getBytes_840e7 rmS_getBT [(v, .inl (cy 1, cap, .inl f))] [.ref (bS i), .ref v, .int (nI i9), .int 0] (fun u9 => u9 = [(v, .inl (cy 1, cap, .inl (va_cpy (tB i) f 0 i9 (tL i))))]) 0 0 := by
  refine cW0_of (cc := cJ0_getBytes_840e7) (maxL := 4) (ret := none) (by decide) rfl (Nat.le_of_ble_eq_true rfl) (fun p e s m args below meth c B X hnm => ?_)
  have lk0 : Cond.fieldLink RJ0 9 "java/lang/String" "value" "[B" ∈ wsJ0_getBytes_840e7 := by decide +kernel
  have lk1 : Cond.methodLink RJ0 212 arraycopyName ∈ wsJ0_getBytes_840e7 := by decide +kernel
  have lk2 : Cond.native arraycopyName ∈ wsJ0_getBytes_840e7 := by decide +kernel
  have lk3 : Cond.static arraycopyName ∈ wsJ0_getBytes_840e7 := by decide +kernel
  have lk4 : Cond.initialized "java/lang/System" ∈ wsJ0_getBytes_840e7 := by decide +kernel
  have K0 : gG p l e rmS_getBT s m args below meth c D (cyT cy) B 4 (MQ below (va_Qv (fun u9 => u9 = [(v, .inl (cy 1, cap, .inl (va_cpy (tB i) f 0 i9 (tL i))))]) (gAt D (cyT cy) (fun w9 : va_W => w9) B) B) args s 0 0 B) [(v, .inl (cy 1, cap, .inl f))] 0 0 0 [(0, .ref (bS i)), (1, .ref v), (2, .int (nI i9)), (3, .int 0)] [] := by
    refine g_aload_n X dJ0_getBytes_840e7_0 rfl 0 rfl ?_
    refine w_afterI (W1 := []) (w := [(v, .inl (cy 1, cap, .inl f))]) (wc := []) (wr := [(v, .inl (cy 1, cap, .inl f))]) X (ZI_ok _ _ _ _ _ _ _ _) [] [0] rfl rfl rfl rfl (by decide) (hM := (t_codT (l := l) (D := D) (cy := cy) (aK := aK) (aO := aO) (aS := aS) (aV := aV) (aT := aT) (bS := bS) (bV := bV) (dA := dA) (i := i) hi)) (st := []) (mcq := 0) (msq := 0) (a9 := ([.ref (bS i)] : List Value).toArray) (fun H locs ls hP hD hSs hl0 => ?_) ?_
    · exact va_runV (As := []) X.1 ((t_codT (l := l) (D := D) (cy := cy) (aK := aK) (aO := aO) (aS := aS) (aV := aV) (aT := aT) (bS := bS) (bV := bV) (dA := dA) (i := i) hi) H.size) (cwV 0 X.1.2.2.2.2 gJ0_getBytes_840e7_J0_coder_7d493 rfl rfl rfl (by decide +kernel) ⟨Nat.le_of_ble_eq_true rfl, Nat.le_of_ble_eq_true rfl⟩) ⟨gPre_blind (ZI_ok _ _ _ _ _ _ _ _), t_recv X hi hSs, (gPre_of (ZI_ok _ _ _ _ _ _ _ _) X.2.1 X.2.2.1 X.2.2.2.1 hP hD hSs).2⟩ rfl rfl hl0.1 rfl (lv_room (Nat.le_of_ble_eq_true rfl)) dJ0_getBytes_840e7_1 ⟨by show 0 + 0 ≤ 0; omega, by show 0 + 0 ≤ 0; omega⟩
    rintro r9 u9 ⟨rfl, rfl⟩
    refine g_weq (ws9 := [(v, .inl (cy 1, cap, .inl f))]) rfl ?_
    refine g_iload_n X dJ0_getBytes_840e7_4 rfl 3 rfl ?_
    refine g_icmp_ne X (tgt := 28) dJ0_getBytes_840e7_5 (by decide) (fun h9 => absurd (rfl) h9) (fun _ => ?_)
    refine g_aload_n X dJ0_getBytes_840e7_8 rfl 0 rfl ?_
    refine g_tVal X hi lk0 dJ0_getBytes_840e7_9 ?_
    refine g_iconst X dJ0_getBytes_840e7_12 (v := (0 : Int32)) (by decide) ?_
    refine g_aload_n X dJ0_getBytes_840e7_13 rfl 1 rfl ?_
    refine g_iload_n X dJ0_getBytes_840e7_14 rfl 2 rfl ?_
    refine g_iload_n X dJ0_getBytes_840e7_15 rfl 3 rfl ?_
    refine g_ishl X dJ0_getBytes_840e7_16 ?_
    refine g_top (y := nI i9) (sb_shl0 _) ?_
    refine g_aload_n X dJ0_getBytes_840e7_17 rfl 0 rfl ?_
    refine g_tVal X hi lk0 dJ0_getBytes_840e7_18 ?_
    refine g_tAl X hi dJ0_getBytes_840e7_21 ?_
    refine g_tCopy X hi lk1 lk2 lk3 lk4 0 1 rfl rfl (by decide) (nI_nn (by omega)) (nI_nn (by have := tL_le i; omega)) (nI_cl0 (by have := tL_le i; omega) (Nat.le_refl _)) (nI_cl (by omega) (by have := tL_le i; omega) hcp) (by decide) (Nat.le_of_ble_eq_true rfl) dJ0_getBytes_840e7_22 (ws9 := [(v, .inl (cy 1, cap, .inl (va_cpy (tB i) f 0 i9 (tL i))))]) (by rw [nq_clamp (by omega), nq_clamp (by have := tL_le i; omega), sb_cl0]; rfl) ?_
    refine g_goto X (tgt := 43) dJ0_getBytes_840e7_25 (by decide) ?_
    exact g_vret (Wf := fun w9 : va_W => w9) (u := [(v, .inl (cy 1, cap, .inl (va_cpy (tB i) f 0 i9 (tL i))))]) X (rfl) dJ0_getBytes_840e7_43
  exact K0
abbrev rmS_putST : Room := { frames := 2, cells := 0, slots := 0, locals := 103 }
set_option maxHeartbeats 4000000 in
set_option maxRecDepth 100000 in
theorem t_putST {q v cap i9 : Nat} {ml n : Int32} {f : Nat → Int32} {i : Nat} (hi : i < 11) (hcp : i9 + (tL i) ≤ cap) (hcap : cap ≤ 262) : cW0 (ZI aK aO aS aV aT bS bV dA) D (cyT cy) l yJ5_putStringAt_47b60 wsJ5_putStringAt_47b60 rmS_putST [(q, .inr (1, [.ref v, .int 0, .int ml, .int n])), (v, .inl (cy 1, cap, .inl f))] [.ref q, .int (nI i9), .ref (bS i)] (fun u9 => u9 = [(q, .inr (1, [.ref v, .int 0, .int ml, .int n])), (v, .inl (cy 1, cap, .inl (va_cpy (tB i) f 0 i9 (tL i))))]) 0 0 := by
  refine cW0_of (cc := cJ5_putStringAt_47b60) (maxL := 3) (ret := none) (by decide) rfl (Nat.le_of_ble_eq_true rfl) (fun p e s m args below meth c B X hnm => ?_)
  have lk0 : Cond.fieldLink RJ5 15 "java/lang/AbstractStringBuilder" "value" "[B" ∈ wsJ5_putStringAt_47b60 := by decide +kernel
  have lk1 : ∀ w ∈ wsJ40, w ∈ wsJ5_putStringAt_47b60 := by decide +kernel
  have lk2 : Cond.fieldLink RJ5 22 "java/lang/AbstractStringBuilder" "coder" "B" ∈ wsJ5_putStringAt_47b60 := by decide +kernel
  have K0 : gG p l e rmS_putST s m args below meth c D (cyT cy) B 3 (MQ below (va_Qv (fun u9 => u9 = [(q, .inr (1, [.ref v, .int 0, .int ml, .int n])), (v, .inl (cy 1, cap, .inl (va_cpy (tB i) f 0 i9 (tL i))))]) (gAt D (cyT cy) (fun w9 : va_W => w9) B) B) args s 0 0 B) [(q, .inr (1, [.ref v, .int 0, .int ml, .int n])), (v, .inl (cy 1, cap, .inl f))] 0 0 0 [(0, .ref q), (1, .int (nI i9)), (2, .ref (bS i))] [] := by
    refine g_aload_n X dJ5_putStringAt_47b60_0 rfl 0 rfl ?_
    refine g_aload_n X dJ5_putStringAt_47b60_1 rfl 2 rfl ?_
    refine w_afterV (W1 := []) (w := [(q, .inr (1, [.ref v, .int 0, .int ml, .int n])), (v, .inl (cy 1, cap, .inl f))]) (wc := [(q, .inr (1, [.ref v, .int 0, .int ml, .int n]))]) (wr := [(v, .inl (cy 1, cap, .inl f))]) X (ZI_ok _ _ _ _ _ _ _ _) [0] [1] rfl rfl rfl rfl (by decide) (hM := (t_inflT (l := l) (D := D) (cy := cy) (aK := aK) (aO := aO) (aS := aS) (aV := aV) (aT := aT) (bS := bS) (bV := bV) (dA := dA) (q := q) (v := v) (ml := ml) (n := n) (i := i) hi)) (st := []) (mcq := 0) (msq := 0) (a9 := ([.ref q, .ref (bS i)] : List Value).toArray) (fun H locs ls hP hD hSs hl0 => ?_) ?_
    · exact va_runU (As := [.ref (bS i)]) X.1 ((t_inflT (l := l) (D := D) (cy := cy) (aK := aK) (aO := aO) (aS := aS) (aV := aV) (aT := aT) (bS := bS) (bV := bV) (dA := dA) (q := q) (v := v) (ml := ml) (n := n) (i := i) hi) H.size) (va_cwU 1 X.1.2.2.2.2 gJ5_putStringAt_47b60_J5_inflateIfNeededFor_a7421_u397J4 rfl rfl rfl rfl (by decide +kernel) ⟨Nat.le_of_ble_eq_true rfl, Nat.le_of_ble_eq_true rfl⟩) ⟨gPre_blind (ZI_ok _ _ _ _ _ _ _ _), va_recv (q0 := 0) X.2.1 hP rfl rfl, (gPre_of (ZI_ok _ _ _ _ _ _ _ _) X.2.1 X.2.2.1 X.2.2.2.1 hP hD hSs).2⟩ rfl rfl hl0.1 rfl (lv_room (Nat.le_of_ble_eq_true rfl)) dJ5_putStringAt_47b60_2 ⟨by show 0 + 0 ≤ 0; omega, by show 0 + 0 ≤ 0; omega⟩
    rintro u9 rfl
    refine g_weq (ws9 := [(v, .inl (cy 1, cap, .inl f)), (q, .inr (1, [.ref v, .int 0, .int ml, .int n]))]) rfl ?_
    refine g_aload_n X dJ5_putStringAt_47b60_5 rfl 2 rfl ?_
    refine g_aload_n X dJ5_putStringAt_47b60_6 rfl 0 rfl ?_
    refine g_getK X 1 rfl lk1 rfl 0 (by decide) lk0 (fun _ h9 => h9) rfl dJ5_putStringAt_47b60_7 ?_
    refine g_iload_n X dJ5_putStringAt_47b60_10 rfl 1 rfl ?_
    refine g_aload_n X dJ5_putStringAt_47b60_11 rfl 0 rfl ?_
    refine g_getK X 1 rfl lk1 rfl 1 (by decide) lk2 (fun _ h9 => h9) rfl dJ5_putStringAt_47b60_12 ?_
    refine w_afterV (W1 := []) (w := [(v, .inl (cy 1, cap, .inl f)), (q, .inr (1, [.ref v, .int 0, .int ml, .int n]))]) (wc := [(v, .inl (cy 1, cap, .inl f))]) (wr := [(q, .inr (1, [.ref v, .int 0, .int ml, .int n]))]) X (ZI_ok _ _ _ _ _ _ _ _) [0] [1] rfl rfl rfl rfl (by decide) (hM := (t_getBT (l := l) (D := D) (cy := cy) (aK := aK) (aO := aO) (aS := aS) (aV := aV) (aT := aT) (bS := bS) (bV := bV) (dA := dA) (v := v) (cap := cap) (i9 := i9) (f := f) (i := i) hi hcp hcap)) (st := []) (mcq := 0) (msq := 0) (a9 := ([.ref (bS i), .ref v, .int (nI i9), .int 0] : List Value).toArray) (fun H locs ls hP hD hSs hl0 => ?_) ?_
    · exact va_runV (As := [.ref v, .int (nI i9), .int 0]) X.1 ((t_getBT (l := l) (D := D) (cy := cy) (aK := aK) (aO := aO) (aS := aS) (aV := aV) (aT := aT) (bS := bS) (bV := bV) (dA := dA) (v := v) (cap := cap) (i9 := i9) (f := f) (i := i) hi hcp hcap) H.size) (cwV 3 X.1.2.2.2.2 gJ5_putStringAt_47b60_J0_getBytes_840e7 rfl rfl rfl (by decide +kernel) ⟨Nat.le_of_ble_eq_true rfl, Nat.le_of_ble_eq_true rfl⟩) ⟨gPre_blind (ZI_ok _ _ _ _ _ _ _ _), t_recv X hi hSs, (gPre_of (ZI_ok _ _ _ _ _ _ _ _) X.2.1 X.2.2.1 X.2.2.2.1 hP hD hSs).2⟩ rfl rfl hl0.1 rfl (lv_room (Nat.le_of_ble_eq_true rfl)) dJ5_putStringAt_47b60_15 ⟨by show 0 + 0 ≤ 0; omega, by show 0 + 0 ≤ 0; omega⟩
    rintro u9 rfl
    refine g_weq (ws9 := [(q, .inr (1, [.ref v, .int 0, .int ml, .int n])), (v, .inl (cy 1, cap, .inl (va_cpy (tB i) f 0 i9 (tL i))))]) rfl ?_
    exact g_vret (Wf := fun w9 : va_W => w9) (u := [(q, .inr (1, [.ref v, .int 0, .int ml, .int n])), (v, .inl (cy 1, cap, .inl (va_cpy (tB i) f 0 i9 (tL i))))]) X (rfl) dJ5_putStringAt_47b60_18
  exact K0
abbrev rmS_appT : Room := { frames := 4, cells := 1, slots := 262, locals := 125 }
set_option maxHeartbeats 4000000 in
set_option maxRecDepth 100000 in
theorem t_appT {q v cap n9 : Nat} {ml : Int32} {f : Nat → Int32} {i : Nat} (hi : i < 11) (hcap : cap ≤ 262) (hn : n9 ≤ cap) (hm : n9 + (tL i) ≤ 130) (hf : sb_Fit f) : cQ (ZI aK aO aS aV aT bS bV dA) D (cyT cy) l yJ5_append_cf1ce wsJ5_append_cf1ce rmS_appT [(q, .inr (1, [.ref v, .int 0, .int ml, .int (nI n9)])), (v, .inl (cy 1, cap, .inl f))] [.ref q, .ref (bS i)] (fun r9 u9 => r9 = some q ∧ ∃ (v9 c9 : Nat) (f9 : Nat → Int32), u9 = [(q, .inr (1, [.ref v9, .int 0, .int ml, .int (nI (n9 + (tL i)))])), (v9, .inl (cy 1, c9, .inl f9))] ∧ c9 ≤ 262 ∧ n9 + (tL i) ≤ c9 ∧ sb_Fit f9 ∧ (∀ j, j < n9 → f9 j = f j) ∧ ∀ j, j < (tL i) → f9 (n9 + j) = (tB i) j) 1 262 := by
  refine cQ_of (cc := cJ5_append_cf1ce) (maxL := 3) (ret := (some (.object "java/lang/AbstractStringBuilder"))) (by decide) rfl (Nat.le_of_ble_eq_true rfl) (fun p e s m args below meth c B X hnm => ?_)
  have lk0 : Cond.fieldLink RJ5 79 "java/lang/AbstractStringBuilder" "count" "I" ∈ wsJ5_append_cf1ce := by decide +kernel
  have lk1 : ∀ w ∈ wsJ40, w ∈ wsJ5_append_cf1ce := by decide +kernel
  have K0 : gG p l e rmS_appT s m args below meth c D (cyT cy) B 3 (MQ below (va_Qq (fun r9 u9 => r9 = some q ∧ ∃ (v9 c9 : Nat) (f9 : Nat → Int32), u9 = [(q, .inr (1, [.ref v9, .int 0, .int ml, .int (nI (n9 + (tL i)))])), (v9, .inl (cy 1, c9, .inl f9))] ∧ c9 ≤ 262 ∧ n9 + (tL i) ≤ c9 ∧ sb_Fit f9 ∧ (∀ j, j < n9 → f9 j = f j) ∧ ∀ j, j < (tL i) → f9 (n9 + j) = (tB i) j) (gAt D (cyT cy) (fun w9 : va_W => w9) B) B) args s 1 262 B) [(q, .inr (1, [.ref v, .int 0, .int ml, .int (nI n9)])), (v, .inl (cy 1, cap, .inl f))] 0 0 0 [(0, .ref q), (1, .ref (bS i))] [] := by
    have hin := cap_in hcap hm
    have hge := sb_cap_gem (n9 + (tL i)) cap
    have hge2 := sb_cap_ge (n9 + (tL i)) cap
    · refine g_aload_n X dJ5_append_cf1ce_0 rfl 1 rfl ?_
      refine g_nonnull X (tgt := 9) dJ5_append_cf1ce_1 (by decide) ?_
      refine g_aload_n X dJ5_append_cf1ce_9 rfl 1 rfl ?_
      refine w_afterI (W1 := []) (w := [(q, .inr (1, [.ref v, .int 0, .int ml, .int (nI n9)])), (v, .inl (cy 1, cap, .inl f))]) (wc := []) (wr := [(q, .inr (1, [.ref v, .int 0, .int ml, .int (nI n9)])), (v, .inl (cy 1, cap, .inl f))]) X (ZI_ok _ _ _ _ _ _ _ _) [] [0, 1] rfl rfl rfl rfl (by decide) (hM := (t_slenT (l := l) (D := D) (cy := cy) (aK := aK) (aO := aO) (aS := aS) (aV := aV) (aT := aT) (bS := bS) (bV := bV) (dA := dA) (i := i) hi)) (st := []) (mcq := 0) (msq := 0) (a9 := ([.ref (bS i)] : List Value).toArray) (fun H locs ls hP hD hSs hl0 => ?_) ?_
      · exact va_runV (As := []) X.1 ((t_slenT (l := l) (D := D) (cy := cy) (aK := aK) (aO := aO) (aS := aS) (aV := aV) (aT := aT) (bS := bS) (bV := bV) (dA := dA) (i := i) hi) H.size) (cwV 0 X.1.2.2.2.2 gJ5_append_cf1ce_J0_length_8abf5 rfl rfl rfl (by decide +kernel) ⟨Nat.le_of_ble_eq_true rfl, Nat.le_of_ble_eq_true rfl⟩) ⟨gPre_blind (ZI_ok _ _ _ _ _ _ _ _), t_recv X hi hSs, (gPre_of (ZI_ok _ _ _ _ _ _ _ _) X.2.1 X.2.2.1 X.2.2.2.1 hP hD hSs).2⟩ rfl rfl hl0.1 rfl (lv_room (Nat.le_of_ble_eq_true rfl)) dJ5_append_cf1ce_10 ⟨by show 0 + 0 ≤ 1; omega, by show 0 + 0 ≤ 262; omega⟩
      rintro r9 u9 ⟨rfl, rfl⟩
      refine g_weq (ws9 := [(q, .inr (1, [.ref v, .int 0, .int ml, .int (nI n9)])), (v, .inl (cy 1, cap, .inl f))]) rfl ?_
      refine g_istore_n X dJ5_append_cf1ce_13 rfl (by decide) (lv' := [(2, .int (nI (tL i))), (0, .ref q), (1, .ref (bS i))]) rfl ?_
      refine g_aload_n X dJ5_append_cf1ce_14 rfl 1 rfl ?_
      refine g_aload_n X dJ5_append_cf1ce_15 rfl 1 rfl ?_
      refine g_getK X 0 rfl lk1 rfl 3 (by decide) lk0 (fun _ h9 => h9) rfl dJ5_append_cf1ce_16 ?_
      refine g_iload_n X dJ5_append_cf1ce_19 rfl 0 rfl ?_
      refine g_iadd X dJ5_append_cf1ce_20 ?_
      refine g_top (y := nI (n9 + (tL i))) (nq_add n9 (tL i)) ?_
      refine w_afterV (W1 := []) (w := [(q, .inr (1, [.ref v, .int 0, .int ml, .int (nI n9)])), (v, .inl (cy 1, cap, .inl f))]) (wc := [(q, .inr (1, [.ref v, .int 0, .int ml, .int (nI n9)])), (v, .inl (cy 1, cap, .inl f))]) (wr := []) X (ZI_ok _ _ _ _ _ _ _ _) [0, 1] [] rfl rfl rfl rfl (by decide) (hM := (t_ensC (l := l) (D := D) (cy := cy) (aK := aK) (aO := aO) (aS := aS) (aV := aV) (aT := aT) (bS := bS) (bV := bV) (dA := dA) (q := q) (v := v) (cap := cap) (m9 := (n9 + (tL i))) (ml := ml) (n := (nI n9)) (f := f) hcap hm hf)) (st := []) (mcq := 1) (msq := 262) (a9 := ([.ref q, .int (nI (n9 + (tL i)))] : List Value).toArray) (fun H locs ls hP hD hSs hl0 => ?_) ?_
      · exact va_runU (As := [.int (nI (n9 + (tL i)))]) X.1 ((t_ensC (l := l) (D := D) (cy := cy) (aK := aK) (aO := aO) (aS := aS) (aV := aV) (aT := aT) (bS := bS) (bV := bV) (dA := dA) (q := q) (v := v) (cap := cap) (m9 := (n9 + (tL i))) (ml := ml) (n := (nI n9)) (f := f) hcap hm hf) H.size) (va_cwU 1 X.1.2.2.2.2 gJ5_append_cf1ce_J5_ensureCapacityInternal_d00df_u100J4 rfl rfl rfl rfl (by decide +kernel) ⟨Nat.le_of_ble_eq_true rfl, Nat.le_of_ble_eq_true rfl⟩) ⟨gPre_blind (ZI_ok _ _ _ _ _ _ _ _), va_recv (q0 := 0) X.2.1 hP rfl rfl, (gPre_of (ZI_ok _ _ _ _ _ _ _ _) X.2.1 X.2.2.1 X.2.2.2.1 hP hD hSs).2⟩ rfl rfl hl0.1 rfl (lv_room (Nat.le_of_ble_eq_true rfl)) dJ5_append_cf1ce_21 ⟨by show 0 + 1 ≤ 1; omega, by show 0 + 262 ≤ 262; omega⟩
      rintro u9 ⟨v8, f8, rfl, hf8, hk8⟩
      refine g_weq (ws9 := [(q, .inr (1, [.ref v8, .int 0, .int ml, .int (nI n9)])), (v8, .inl (cy 1, (sb_cap (n9 + (tL i)) cap), .inl f8))]) rfl ?_
      refine g_aload_n X dJ5_append_cf1ce_24 rfl 1 rfl ?_
      refine g_aload_n X dJ5_append_cf1ce_25 rfl 1 rfl ?_
      refine g_getK X 0 rfl lk1 rfl 3 (by decide) lk0 (fun _ h9 => h9) rfl dJ5_append_cf1ce_26 ?_
      refine g_aload_n X dJ5_append_cf1ce_29 rfl 2 rfl ?_
      refine w_afterV (W1 := []) (w := [(q, .inr (1, [.ref v8, .int 0, .int ml, .int (nI n9)])), (v8, .inl (cy 1, (sb_cap (n9 + (tL i)) cap), .inl f8))]) (wc := [(q, .inr (1, [.ref v8, .int 0, .int ml, .int (nI n9)])), (v8, .inl (cy 1, (sb_cap (n9 + (tL i)) cap), .inl f8))]) (wr := []) X (ZI_ok _ _ _ _ _ _ _ _) [0, 1] [] rfl rfl rfl rfl (by decide) (hM := (t_putST (l := l) (D := D) (cy := cy) (aK := aK) (aO := aO) (aS := aS) (aV := aV) (aT := aT) (bS := bS) (bV := bV) (dA := dA) (q := q) (v := v8) (cap := (sb_cap (n9 + (tL i)) cap)) (i9 := n9) (ml := ml) (n := (nI n9)) (f := f8) (i := i) hi hge2 hin)) (st := []) (mcq := 0) (msq := 0) (a9 := ([.ref q, .int (nI n9), .ref (bS i)] : List Value).toArray) (fun H locs ls hP hD hSs hl0 => ?_) ?_
      · exact va_runU (As := [.int (nI n9), .ref (bS i)]) X.1 ((t_putST (l := l) (D := D) (cy := cy) (aK := aK) (aO := aO) (aS := aS) (aV := aV) (aT := aT) (bS := bS) (bV := bV) (dA := dA) (q := q) (v := v8) (cap := (sb_cap (n9 + (tL i)) cap)) (i9 := n9) (ml := ml) (n := (nI n9)) (f := f8) (i := i) hi hge2 hin) H.size) (va_cwU 2 X.1.2.2.2.2 gJ5_append_cf1ce_J5_putStringAt_47b60_u208J4 rfl rfl rfl rfl (by decide +kernel) ⟨Nat.le_of_ble_eq_true rfl, Nat.le_of_ble_eq_true rfl⟩) ⟨gPre_blind (ZI_ok _ _ _ _ _ _ _ _), va_recv (q0 := 0) X.2.1 hP rfl rfl, (gPre_of (ZI_ok _ _ _ _ _ _ _ _) X.2.1 X.2.2.1 X.2.2.2.1 hP hD hSs).2⟩ rfl rfl hl0.1 rfl (lv_room (Nat.le_of_ble_eq_true rfl)) dJ5_append_cf1ce_30 ⟨by show 1 + 0 ≤ 1; omega, by show 0 + 262 + 0 ≤ 262; omega⟩
      rintro u9 rfl
      refine g_weq (ws9 := [(q, .inr (1, [.ref v8, .int 0, .int ml, .int (nI n9)])), (v8, .inl (cy 1, (sb_cap (n9 + (tL i)) cap), .inl (va_cpy (tB i) f8 0 n9 (tL i))))]) rfl ?_
      refine g_aload_n X dJ5_append_cf1ce_33 rfl 1 rfl ?_
      refine g_dup X dJ5_append_cf1ce_34 rfl ?_
      refine g_getK X 0 rfl lk1 rfl 3 (by decide) lk0 (fun _ h9 => h9) rfl dJ5_append_cf1ce_35 ?_
      refine g_iload_n X dJ5_append_cf1ce_38 rfl 0 rfl ?_
      refine g_iadd X dJ5_append_cf1ce_39 ?_
      refine g_top (y := nI (n9 + (tL i))) (nq_add n9 (tL i)) ?_
      refine g_putK X 0 rfl lk1 rfl tyJ4 tyJ4_ok nmJ4 3 (by decide) lk0 (fun _ h9 => h9) rfl (ty := .int) (v := .int (nI (n9 + (tL i)))) (by decide +kernel) rfl rfl (Nat.le_of_ble_eq_true rfl) dJ5_append_cf1ce_40 (ws9 := [(q, .inr (1, [.ref v8, .int 0, .int ml, .int (nI (n9 + (tL i)))])), (v8, .inl (cy 1, (sb_cap (n9 + (tL i)) cap), .inl (va_cpy (tB i) f8 0 n9 (tL i))))]) rfl ?_
      refine g_aload_n X dJ5_append_cf1ce_43 rfl 1 rfl ?_
      refine g_wid (k' := 1) (n' := 262) (by omega) (by omega) ?_
      exact g_aret (Wf := fun w9 : va_W => w9) (u := [(q, .inr (1, [.ref v8, .int 0, .int ml, .int (nI (n9 + (tL i)))])), (v8, .inl (cy 1, (sb_cap (n9 + (tL i)) cap), .inl (va_cpy (tB i) f8 0 n9 (tL i))))]) X (Or.inl ⟨_, rfl⟩) (⟨rfl, _, _, _, rfl, hin, hge2, sb_fitC (tB_fit i) hf8, (fun j hj => (cpy_lo hj).trans (hk8 j (by omega))), (fun j hj => cpy_hi hj)⟩) dJ5_append_cf1ce_44
  exact K0
abbrev rmS_bappT : Room := { frames := 5, cells := 1, slots := 262, locals := 147 }
set_option maxHeartbeats 4000000 in
set_option maxRecDepth 100000 in
theorem t_bappT {q v cap n9 : Nat} {ml : Int32} {f : Nat → Int32} {i : Nat} (hi : i < 11) (hcap : cap ≤ 262) (hn : n9 ≤ cap) (hm : n9 + (tL i) ≤ 130) (hf : sb_Fit f) : cQ (ZI aK aO aS aV aT bS bV dA) D (cyT cy) l yJ4_append_15ec4 wsJ4_append_15ec4 rmS_bappT [(q, .inr (1, [.ref v, .int 0, .int ml, .int (nI n9)])), (v, .inl (cy 1, cap, .inl f))] [.ref q, .ref (bS i)] (fun r9 u9 => r9 = some q ∧ ∃ (v9 c9 : Nat) (f9 : Nat → Int32), u9 = [(q, .inr (1, [.ref v9, .int 0, .int ml, .int (nI (n9 + (tL i)))])), (v9, .inl (cy 1, c9, .inl f9))] ∧ c9 ≤ 262 ∧ n9 + (tL i) ≤ c9 ∧ sb_Fit f9 ∧ (∀ j, j < n9 → f9 j = f j) ∧ ∀ j, j < (tL i) → f9 (n9 + j) = (tB i) j) 1 262 := by
  refine cQ_of (cc := cJ4_append_15ec4) (maxL := 2) (ret := (some (.object "java/lang/StringBuilder"))) (by decide) rfl (Nat.le_of_ble_eq_true rfl) (fun p e s m args below meth c B X hnm => ?_)
  have K0 : gG p l e rmS_bappT s m args below meth c D (cyT cy) B 2 (MQ below (va_Qq (fun r9 u9 => r9 = some q ∧ ∃ (v9 c9 : Nat) (f9 : Nat → Int32), u9 = [(q, .inr (1, [.ref v9, .int 0, .int ml, .int (nI (n9 + (tL i)))])), (v9, .inl (cy 1, c9, .inl f9))] ∧ c9 ≤ 262 ∧ n9 + (tL i) ≤ c9 ∧ sb_Fit f9 ∧ (∀ j, j < n9 → f9 j = f j) ∧ ∀ j, j < (tL i) → f9 (n9 + j) = (tB i) j) (gAt D (cyT cy) (fun w9 : va_W => w9) B) B) args s 1 262 B) [(q, .inr (1, [.ref v, .int 0, .int ml, .int (nI n9)])), (v, .inl (cy 1, cap, .inl f))] 0 0 0 [(0, .ref q), (1, .ref (bS i))] [] := by
    refine g_aload_n X dJ4_append_15ec4_0 rfl 0 rfl ?_
    refine g_aload_n X dJ4_append_15ec4_1 rfl 1 rfl ?_
    refine w_afterQ (W1 := []) (w := [(q, .inr (1, [.ref v, .int 0, .int ml, .int (nI n9)])), (v, .inl (cy 1, cap, .inl f))]) (wc := [(q, .inr (1, [.ref v, .int 0, .int ml, .int (nI n9)])), (v, .inl (cy 1, cap, .inl f))]) (wr := []) X (ZI_ok _ _ _ _ _ _ _ _) [0, 1] [] rfl rfl rfl rfl (by decide) (hM := (t_appT (l := l) (D := D) (cy := cy) (aK := aK) (aO := aO) (aS := aS) (aV := aV) (aT := aT) (bS := bS) (bV := bV) (dA := dA) (q := q) (v := v) (cap := cap) (n9 := n9) (ml := ml) (f := f) (i := i) hi hcap hn hm hf)) (st := []) (mcq := 1) (msq := 262) (a9 := ([.ref q, .ref (bS i)] : List Value).toArray) (fun H locs ls hP hD hSs hl0 => ?_) ?_
    · exact va_runSU (As := [.ref (bS i)]) (X.2.1.1 1 _ rfl).2 X.1 ((t_appT (l := l) (D := D) (cy := cy) (aK := aK) (aO := aO) (aS := aS) (aV := aV) (aT := aT) (bS := bS) (bV := bV) (dA := dA) (q := q) (v := v) (cap := cap) (n9 := n9) (ml := ml) (f := f) (i := i) hi hcap hn hm hf) H.size) (va_cwSU 1 X.1.2.2.2.2 gJ4_append_15ec4_J5_append_cf1ce_s29 rfl rfl rfl (by decide +kernel) ⟨Nat.le_of_ble_eq_true rfl, Nat.le_of_ble_eq_true rfl⟩) ⟨gPre_blind (ZI_ok _ _ _ _ _ _ _ _), va_recv (q0 := 0) X.2.1 hP rfl rfl, (gPre_of (ZI_ok _ _ _ _ _ _ _ _) X.2.1 X.2.2.1 X.2.2.2.1 hP hD hSs).2⟩ rfl rfl hl0.1 rfl (lv_room (Nat.le_of_ble_eq_true rfl)) dJ4_append_15ec4_2 ⟨by show 0 + 1 ≤ 1; omega, by show 0 + 262 ≤ 262; omega⟩
    rintro r9 u9 ⟨rfl, v8, c8, f8, rfl, h8⟩
    refine g_weq (ws9 := [(q, .inr (1, [.ref v8, .int 0, .int ml, .int (nI (n9 + (tL i)))])), (v8, .inl (cy 1, c8, .inl f8))]) rfl ?_
    refine g_pop X dJ4_append_15ec4_5 rfl ?_
    refine g_aload_n X dJ4_append_15ec4_6 rfl 0 rfl ?_
    refine g_wid (k' := 1) (n' := 262) (by omega) (by omega) ?_
    exact g_aret (Wf := fun w9 : va_W => w9) (u := [(q, .inr (1, [.ref v8, .int 0, .int ml, .int (nI (n9 + (tL i)))])), (v8, .inl (cy 1, c8, .inl f8))]) X (Or.inl ⟨_, rfl⟩) (⟨rfl, v8, c8, f8, rfl, h8⟩) dJ4_append_15ec4_7
  exact K0
end TM
