/-! the JDK's methods on texts: contracts over their own cells -/
/-! texts as lists -/
def lt2 (L : List Nat) (n : Nat) (f : Nat → Int32) : Prop := n = L.length ∧ ∀ j x, L[j]? = some x → f j = nI x ∧ x < 128
theorem lt2_0 (f : Nat → Int32) : lt2 [] 0 f := ⟨rfl, fun _ _ h => by rw [List.getElem?_nil] at h; cases h⟩
theorem lt_app {L S : List Nat} {n ns : Nat} {f fs f8 : Nat → Int32} (h : lt2 L n f) (hS : lt2 S ns fs) (lo : ∀ j, j < n → f8 j = f j) (hi : ∀ j, j < ns → f8 (n + j) = fs j) : lt2 (L ++ S) (n + ns) f8 := by
  obtain ⟨rfl, h2⟩ := h
  obtain ⟨rfl, s2⟩ := hS
  refine ⟨List.length_append.symm, fun j x hj => ?_⟩
  by_cases e : j < L.length
  · rw [List.getElem?_append_left e] at hj
    rw [lo j e]; exact h2 j x hj
  · rw [List.getElem?_append_right (by omega)] at hj
    have hl := (List.getElem?_eq_some_iff.mp hj).1
    have h9 := hi (j - L.length) hl
    rw [show L.length + (j - L.length) = j by omega] at h9
    rw [h9]; exact s2 _ x hj
theorem lt_eq {L : List Nat} {n : Nat} {f f8 : Nat → Int32} (h : lt2 L n f) (lo : ∀ j, j < n → f8 j = f j) : lt2 L n f8 := by
  obtain ⟨rfl, h2⟩ := h
  refine ⟨rfl, fun j x hj => ?_⟩
  rw [lo j (List.getElem?_eq_some_iff.mp hj).1]; exact h2 j x hj
theorem dg3 {w : Nat} (hw : w < 1000) : sb_dg w ≤ 3 := by
  unfold sb_dg
  by_cases h1 : w < 10
  · rw [if_pos h1]; omega
  · by_cases h2 : w < 100
    · rw [if_neg h1, if_pos h2]; omega
    · rw [if_neg h1, if_neg h2, if_pos hw]; omega
theorem dc_lt {w : Nat} (hw : w < 1000) : lt2 (dcL w) (sb_dg w) (fun j => sb_b (sb_dec w j)) := by
  by_cases h1 : w < 10
  · have hd : sb_dg w = 1 := by unfold sb_dg; rw [if_pos h1]
    unfold dcL
    rw [if_pos h1]
    refine ⟨hd, fun j x hj => ?_⟩
    match j, hj with
    | 0, hj =>
      cases hj
      exact ⟨(dec_at hd (by show 48 + w / 10 ^ 0 % 10 = _; rw [Nat.pow_zero, Nat.div_one]; omega) (by omega)).symm, by omega⟩
    | j + 1, hj => exact nomatch hj
  · by_cases h2 : w < 100
    · have hd : sb_dg w = 2 := by unfold sb_dg; rw [if_neg h1, if_pos h2]
      unfold dcL
      rw [if_neg h1, if_pos h2]
      refine ⟨hd, fun j x hj => ?_⟩
      match j, hj with
      | 0, hj =>
        cases hj
        exact ⟨(dec_at hd (by show 48 + w / 10 ^ 1 % 10 = _; rw [Nat.pow_one]; omega) (by omega)).symm, by omega⟩
      | 1, hj =>
        cases hj
        exact ⟨(dec_at hd (by show 48 + w / 10 ^ 0 % 10 = _; rw [Nat.pow_zero, Nat.div_one]) (by omega)).symm, by omega⟩
      | j + 2, hj => exact nomatch hj
    · have hd : sb_dg w = 3 := by unfold sb_dg; rw [if_neg h1, if_neg h2, if_pos hw]
      unfold dcL
      rw [if_neg h1, if_neg h2]
      refine ⟨hd, fun j x hj => ?_⟩
      match j, hj with
      | 0, hj =>
        cases hj
        exact ⟨(dec_at hd (by show 48 + w / 10 ^ 2 % 10 = _; rw [show (10 : Nat) ^ 2 = 100 from rfl]; omega) (by omega)).symm, by omega⟩
      | 1, hj =>
        cases hj
        exact ⟨(dec_at hd (by show 48 + w / 10 ^ 1 % 10 = _; rw [Nat.pow_one]) (by omega)).symm, by omega⟩
      | 2, hj =>
        cases hj
        exact ⟨(dec_at hd (by show 48 + w / 10 ^ 0 % 10 = _; rw [Nat.pow_zero, Nat.div_one]) (by omega)).symm, by omega⟩
      | j + 3, hj => exact nomatch hj
theorem lt_int {L : List Nat} {n w : Nat} {f f8 : Nat → Int32} (h : lt2 L n f) (hw : w < 1000) (lo : ∀ j, j < n → f8 j = f j) (hi : ∀ j, j < sb_dg w → f8 (n + j) = sb_b (sb_dec w j)) : lt2 (L ++ dcL w) (n + sb_dg w) f8 := lt_app h (dc_lt hw) lo hi
def tT (i : Nat) : List Nat := [[45, 32], [], [32, 109, 111, 100, 32], [115, 97, 109, 101, 32], [32], [59], [114, 105, 115, 101, 32], [102, 97, 108, 108, 32], [119, 97, 118, 101, 32], [100, 114, 97, 119, 32], [116, 101, 101, 116, 104, 32]].getD i []
theorem tT_lt {i : Nat} (hi : i < 11) : lt2 (tT i) (tL i) (tB i) := by
  have h : ∀ i, i < 11 → tL i = (tT i).length ∧ ∀ j, j < 6 → ((tT i)[j]?.all fun x => decide (tB i j = nI x ∧ x < 128)) = true := by decide +kernel
  obtain ⟨h1, h2⟩ := h i hi
  refine ⟨h1, fun j x hj => ?_⟩
  have hl := (List.getElem?_eq_some_iff.mp hj).1
  have := tL_le i
  have h3 := h2 j (by omega)
  rw [hj] at h3
  exact of_decide_eq_true h3
theorem neg_nn {w : Nat} (h1 : 1 ≤ w) (hw : w < 2147483648) : ¬ nI 0 ≤ -nI w := by
  intro h
  rw [Int32.le_iff_toInt_le, nq_toInt (by omega), sb_negT hw] at h
  omega
section TM
variable {l : Launch} {D : va_G} {cy : Nat → ClassId} {aK aO aS aV aT bS bV dA : Nat → Nat}
abbrev rmS_bnd : Room := { frames := 6, cells := 6, slots := 810, locals := 191 }
set_option maxHeartbeats 4000000 in
set_option maxRecDepth 100000 in
theorem t_bnd {v : Int32} {ng : Bool} {w : Nat} (hw : w < 1000) (hv : v = if ng = true then -nI w else nI w) (h1 : ng = true → 1 ≤ w) : cQ (ZI aK aO aS aV aT bS bV dA) D (cyT cy) l yL_bound wsL_bound rmS_bnd [] [.int v] (fun r9 u9 => ∃ (q9 v9 n9 : Nat) (f9 : Nat → Int32), r9 = some q9 ∧ u9 = [(q9, .inr (0, [.ref v9, .int 0, .int 0, .int 0])), (v9, .inl (cy 1, n9, .inl f9))] ∧ sb_Fit f9 ∧ lt2 (ngT ng (dcL w)) n9 f9) 6 810 := by
  refine cQ_of (cc := cL_bound) (maxL := 1) (ret := (some (.object "java/lang/String"))) (by decide) rfl (Nat.le_of_ble_eq_true rfl) (fun p e s m args below meth c B X hnm => ?_)
  have lk0 : ∀ w ∈ wsJ40, w ∈ wsL_bound := by decide +kernel
  have lk1 : Cond.initialized RJ4 ∈ wsL_bound := by decide +kernel
  have lk2 : Cond.methodLink RL 16 yJ4_init_da8c8 ∈ wsL_bound := by decide +kernel
  have lk3 : Cond.instanceMethod yJ4_init_da8c8 ∈ wsL_bound := by decide +kernel
  have K0 : gG p l e rmS_bnd s m args below meth c D (cyT cy) B 1 (MQ below (va_Qq (fun r9 u9 => ∃ (q9 v9 n9 : Nat) (f9 : Nat → Int32), r9 = some q9 ∧ u9 = [(q9, .inr (0, [.ref v9, .int 0, .int 0, .int 0])), (v9, .inl (cy 1, n9, .inl f9))] ∧ sb_Fit f9 ∧ lt2 (ngT ng (dcL w)) n9 f9) (gAt D (cyT cy) (fun w9 : va_W => w9) B) B) args s 6 810 B) [] 0 0 0 [(0, .int v)] [] := by
    have t0 := tL_le 0
    have t1 := tL_le 1
    have d3 := dg3 hw
    cases ng
    · obtain rfl : v = nI w := hv
      refine g_iload_n X dL_bound_0 rfl 0 rfl ?_
      refine g_if_ge X (tgt := 27) dL_bound_1 (by decide) (fun _ => ?_) (fun h9 => absurd (by rw [nz0, nq_le (by omega) (by omega)]; omega) h9)
      refine g_new X (fs := [.null, .int 0, .int 0, .int 0]) lk0 tyJ4 tyJ4_ok (by decide +kernel) (by decide +kernel) (by decide +kernel) (ci := 1) rfl (fun j hj => by match j, hj with | 0, _ => rfl | 1, _ => rfl | 2, _ => rfl | 3, _ => rfl) (by show 0 + 1 ≤ 6; omega) (by show 0 + 4 ≤ 810; omega) dL_bound_27 (fun q_1 => ?_)
      refine g_weq (ws9 := [(q_1, .inr (1, [.null, .int 0, .int 0, .int 0]))]) rfl ?_
      refine g_dup X dL_bound_30 rfl ?_
      refine w_afterV (W1 := []) (w := [(q_1, .inr (1, [.null, .int 0, .int 0, .int 0]))]) (wc := [(q_1, .inr (1, [.null, .int 0, .int 0, .int 0]))]) (wr := []) X (ZI_ok _ _ _ _ _ _ _ _) [0] [] rfl rfl rfl rfl (by decide) (hM := (t_binit (l := l) (D := D) (cy := cy) (aK := aK) (aO := aO) (aS := aS) (aV := aV) (aT := aT) (bS := bS) (bV := bV) (dA := dA) (q := q_1))) (st := [.ref q_1]) (mcq := 1) (msq := 16) (a9 := ([.ref q_1] : List Value).toArray) (fun H locs ls hP hD hSs hl0 => ?_) ?_
      · exact va_runI (As := []) X.1 ((t_binit (l := l) (D := D) (cy := cy) (aK := aK) (aO := aO) (aS := aS) (aV := aV) (aT := aT) (bS := bS) (bV := bV) (dA := dA) (q := q_1)) H.size) (cwI 0 X.1.2.2.2.2 gL_bound_J4_init_da8c8 rfl rfl rfl (X.1.2.2.2.2 _ lk1) (X.1.2.2.2.2 _ lk2) (X.1.2.2.2.2 _ lk3) rfl (by decide +kernel) ⟨Nat.le_of_ble_eq_true rfl, Nat.le_of_ble_eq_true rfl⟩) ⟨gPre_blind (ZI_ok _ _ _ _ _ _ _ _), (gPre_of (ZI_ok _ _ _ _ _ _ _ _) X.2.1 X.2.2.1 X.2.2.2.1 hP hD hSs).2⟩ rfl rfl hl0.1 rfl (lv_room (Nat.le_of_ble_eq_true rfl)) dL_bound_31 ⟨by show 1 + 1 ≤ 6; omega, by show 0 + 4 + 16 ≤ 810; omega⟩
      rintro u9 ⟨v1, rfl⟩
      refine g_weq (ws9 := [(q_1, .inr (1, [.ref v1, .int 0, .int 0, .int (nI 0)])), (v1, .inl (cy 1, 16, .inl (fun _ => (0 : Int32))))]) rfl ?_
      refine g_ldcT X (i := 1) (by decide) dL_bound_34 ?_
      refine w_afterQ (W1 := []) (w := [(q_1, .inr (1, [.ref v1, .int 0, .int 0, .int (nI 0)])), (v1, .inl (cy 1, 16, .inl (fun _ => (0 : Int32))))]) (wc := [(q_1, .inr (1, [.ref v1, .int 0, .int 0, .int (nI 0)])), (v1, .inl (cy 1, 16, .inl (fun _ => (0 : Int32))))]) (wr := []) X (ZI_ok _ _ _ _ _ _ _ _) [0, 1] [] rfl rfl rfl rfl (by decide) (hM := (t_bappT (l := l) (D := D) (cy := cy) (aK := aK) (aO := aO) (aS := aS) (aV := aV) (aT := aT) (bS := bS) (bV := bV) (dA := dA) (q := q_1) (v := v1) (cap := 16) (n9 := 0) (ml := 0) (f := (fun _ => (0 : Int32))) (i := 1) (by decide) (by decide) (by decide) (by omega) sb_fit0)) (st := []) (mcq := 1) (msq := 262) (a9 := ([.ref q_1, .ref (bS 1)] : List Value).toArray) (fun H locs ls hP hD hSs hl0 => ?_) ?_
      · exact va_runV (As := [.ref (bS 1)]) X.1 ((t_bappT (l := l) (D := D) (cy := cy) (aK := aK) (aO := aO) (aS := aS) (aV := aV) (aT := aT) (bS := bS) (bV := bV) (dA := dA) (q := q_1) (v := v1) (cap := 16) (n9 := 0) (ml := 0) (f := (fun _ => (0 : Int32))) (i := 1) (by decide) (by decide) (by decide) (by omega) sb_fit0) H.size) (cwV 1 X.1.2.2.2.2 gL_bound_J4_append_15ec4 rfl rfl rfl (by decide +kernel) ⟨Nat.le_of_ble_eq_true rfl, Nat.le_of_ble_eq_true rfl⟩) ⟨gPre_blind (ZI_ok _ _ _ _ _ _ _ _), va_recv (q0 := 0) X.2.1 hP rfl rfl, (gPre_of (ZI_ok _ _ _ _ _ _ _ _) X.2.1 X.2.2.1 X.2.2.2.1 hP hD hSs).2⟩ rfl rfl hl0.1 rfl (lv_room (Nat.le_of_ble_eq_true rfl)) dL_bound_36 ⟨by show 2 + 1 ≤ 6; omega, by show 0 + 4 + 16 + 262 ≤ 810; omega⟩
      rintro r9 u9 ⟨rfl, v2, c2, f2, rfl, hc2, hn2, hf2, lo2, hi2⟩
      have hl2 := lt_app (lt2_0 _) (tT_lt (by decide)) lo2 hi2
      refine g_weq (ws9 := [(q_1, .inr (1, [.ref v2, .int 0, .int 0, .int (nI (0 + tL 1))])), (v2, .inl (cy 1, c2, .inl f2))]) rfl ?_
      refine g_iload_n X dL_bound_39 rfl 0 rfl ?_
      refine w_afterQ (W1 := []) (w := [(q_1, .inr (1, [.ref v2, .int 0, .int 0, .int (nI (0 + tL 1))])), (v2, .inl (cy 1, c2, .inl f2))]) (wc := [(q_1, .inr (1, [.ref v2, .int 0, .int 0, .int (nI (0 + tL 1))])), (v2, .inl (cy 1, c2, .inl f2))]) (wr := []) X (ZI_ok _ _ _ _ _ _ _ _) [0, 1] [] rfl rfl rfl rfl (by decide) (hM := (t_bint (l := l) (D := D) (cy := cy) (aK := aK) (aO := aO) (aS := aS) (aV := aV) (aT := aT) (bS := bS) (bV := bV) (dA := dA) (q := q_1) (v := v2) (cap := c2) (n9 := (0 + tL 1)) (ml := 0) (f := f2) (w := w) hw hc2 hn2 (by omega) hf2)) (st := []) (mcq := 1) (msq := 262) (a9 := ([.ref q_1, .int (nI w)] : List Value).toArray) (fun H locs ls hP hD hSs hl0 => ?_) ?_
      · exact va_runV (As := [.int (nI w)]) X.1 ((t_bint (l := l) (D := D) (cy := cy) (aK := aK) (aO := aO) (aS := aS) (aV := aV) (aT := aT) (bS := bS) (bV := bV) (dA := dA) (q := q_1) (v := v2) (cap := c2) (n9 := (0 + tL 1)) (ml := 0) (f := f2) (w := w) hw hc2 hn2 (by omega) hf2) H.size) (cwV 1 X.1.2.2.2.2 gL_bound_J4_append_bf812 rfl rfl rfl (by decide +kernel) ⟨Nat.le_of_ble_eq_true rfl, Nat.le_of_ble_eq_true rfl⟩) ⟨gPre_blind (ZI_ok _ _ _ _ _ _ _ _), va_recv (q0 := 0) X.2.1 hP rfl rfl, (gPre_of (ZI_ok _ _ _ _ _ _ _ _) X.2.1 X.2.2.1 X.2.2.2.1 hP hD hSs).2⟩ rfl rfl hl0.1 rfl (lv_room (Nat.le_of_ble_eq_true rfl)) dL_bound_40 ⟨by show 3 + 1 ≤ 6; omega, by show 0 + 4 + 16 + 262 + 262 ≤ 810; omega⟩
      rintro r9 u9 ⟨rfl, v3, c3, f3, rfl, hc3, hn3, hf3, lo3, hi3⟩
      have hl3 := lt_int hl2 hw lo3 hi3
      refine g_weq (ws9 := [(q_1, .inr (1, [.ref v3, .int 0, .int 0, .int (nI (0 + tL 1 + sb_dg w))])), (v3, .inl (cy 1, c3, .inl f3))]) rfl ?_
      refine w_afterQ (W1 := []) (w := [(q_1, .inr (1, [.ref v3, .int 0, .int 0, .int (nI (0 + tL 1 + sb_dg w))])), (v3, .inl (cy 1, c3, .inl f3))]) (wc := [(q_1, .inr (1, [.ref v3, .int 0, .int 0, .int (nI (0 + tL 1 + sb_dg w))])), (v3, .inl (cy 1, c3, .inl f3))]) (wr := []) X (ZI_ok _ _ _ _ _ _ _ _) [0, 1] [] rfl rfl rfl rfl (by decide) (hM := (t_toS (l := l) (D := D) (cy := cy) (aK := aK) (aO := aO) (aS := aS) (aV := aV) (aT := aT) (bS := bS) (bV := bV) (dA := dA) (q := q_1) (v := v3) (cap := c3) (n9 := (0 + tL 1 + sb_dg w)) (ml := 0) (f := f3) hn3 hc3 hf3)) (st := []) (mcq := 2) (msq := 266) (a9 := ([.ref q_1] : List Value).toArray) (fun H locs ls hP hD hSs hl0 => ?_) ?_
      · exact va_runV (As := []) X.1 ((t_toS (l := l) (D := D) (cy := cy) (aK := aK) (aO := aO) (aS := aS) (aV := aV) (aT := aT) (bS := bS) (bV := bV) (dA := dA) (q := q_1) (v := v3) (cap := c3) (n9 := (0 + tL 1 + sb_dg w)) (ml := 0) (f := f3) hn3 hc3 hf3) H.size) (cwV 0 X.1.2.2.2.2 gL_bound_J4_toString_0e30d rfl rfl rfl (by decide +kernel) ⟨Nat.le_of_ble_eq_true rfl, Nat.le_of_ble_eq_true rfl⟩) ⟨gPre_blind (ZI_ok _ _ _ _ _ _ _ _), va_recv (q0 := 0) X.2.1 hP rfl rfl, (gPre_of (ZI_ok _ _ _ _ _ _ _ _) X.2.1 X.2.2.1 X.2.2.2.1 hP hD hSs).2⟩ rfl rfl hl0.1 rfl (lv_room (Nat.le_of_ble_eq_true rfl)) dL_bound_43 ⟨by show 4 + 2 ≤ 6; omega, by show 0 + 4 + 16 + 262 + 262 + 266 ≤ 810; omega⟩
      rintro r9 u9 ⟨q_s4, vs4, fs4, rfl, rfl, hfs4, ls4⟩
      have hls4 := lt_eq hl3 ls4
      refine g_weq (ws9 := [(q_s4, .inr (0, [.ref vs4, .int 0, .int 0, .int 0])), (vs4, .inl (cy 1, (0 + tL 1 + sb_dg w), .inl fs4))]) rfl ?_
      refine g_wid (k' := 6) (n' := 810) (by omega) (by omega) ?_
      exact g_aret (Wf := fun w9 : va_W => w9) (u := [(q_s4, .inr (0, [.ref vs4, .int 0, .int 0, .int 0])), (vs4, .inl (cy 1, (0 + tL 1 + sb_dg w), .inl fs4))]) X (Or.inl ⟨_, rfl⟩) (⟨_, _, _, _, rfl, rfl, hfs4, hls4⟩) dL_bound_46
    · obtain rfl : v = -nI w := hv
      have h1 := h1 rfl
      refine g_iload_n X dL_bound_0 rfl 0 rfl ?_
      refine g_if_ge X (tgt := 27) dL_bound_1 (by decide) (fun h9 => absurd h9 (by rw [nz0]; exact fun h8 => absurd h8 (neg_nn h1 (by omega)))) (fun _ => ?_)
      refine g_new X (fs := [.null, .int 0, .int 0, .int 0]) lk0 tyJ4 tyJ4_ok (by decide +kernel) (by decide +kernel) (by decide +kernel) (ci := 1) rfl (fun j hj => by match j, hj with | 0, _ => rfl | 1, _ => rfl | 2, _ => rfl | 3, _ => rfl) (by show 0 + 1 ≤ 6; omega) (by show 0 + 4 ≤ 810; omega) dL_bound_4 (fun q_2 => ?_)
      refine g_weq (ws9 := [(q_2, .inr (1, [.null, .int 0, .int 0, .int 0]))]) rfl ?_
      refine g_dup X dL_bound_7 rfl ?_
      refine w_afterV (W1 := []) (w := [(q_2, .inr (1, [.null, .int 0, .int 0, .int 0]))]) (wc := [(q_2, .inr (1, [.null, .int 0, .int 0, .int 0]))]) (wr := []) X (ZI_ok _ _ _ _ _ _ _ _) [0] [] rfl rfl rfl rfl (by decide) (hM := (t_binit (l := l) (D := D) (cy := cy) (aK := aK) (aO := aO) (aS := aS) (aV := aV) (aT := aT) (bS := bS) (bV := bV) (dA := dA) (q := q_2))) (st := [.ref q_2]) (mcq := 1) (msq := 16) (a9 := ([.ref q_2] : List Value).toArray) (fun H locs ls hP hD hSs hl0 => ?_) ?_
      · exact va_runI (As := []) X.1 ((t_binit (l := l) (D := D) (cy := cy) (aK := aK) (aO := aO) (aS := aS) (aV := aV) (aT := aT) (bS := bS) (bV := bV) (dA := dA) (q := q_2)) H.size) (cwI 0 X.1.2.2.2.2 gL_bound_J4_init_da8c8 rfl rfl rfl (X.1.2.2.2.2 _ lk1) (X.1.2.2.2.2 _ lk2) (X.1.2.2.2.2 _ lk3) rfl (by decide +kernel) ⟨Nat.le_of_ble_eq_true rfl, Nat.le_of_ble_eq_true rfl⟩) ⟨gPre_blind (ZI_ok _ _ _ _ _ _ _ _), (gPre_of (ZI_ok _ _ _ _ _ _ _ _) X.2.1 X.2.2.1 X.2.2.2.1 hP hD hSs).2⟩ rfl rfl hl0.1 rfl (lv_room (Nat.le_of_ble_eq_true rfl)) dL_bound_8 ⟨by show 1 + 1 ≤ 6; omega, by show 0 + 4 + 16 ≤ 810; omega⟩
      rintro u9 ⟨v5, rfl⟩
      refine g_weq (ws9 := [(q_2, .inr (1, [.ref v5, .int 0, .int 0, .int (nI 0)])), (v5, .inl (cy 1, 16, .inl (fun _ => (0 : Int32))))]) rfl ?_
      refine g_ldcT X (i := 0) (by decide) dL_bound_11 ?_
      refine w_afterQ (W1 := []) (w := [(q_2, .inr (1, [.ref v5, .int 0, .int 0, .int (nI 0)])), (v5, .inl (cy 1, 16, .inl (fun _ => (0 : Int32))))]) (wc := [(q_2, .inr (1, [.ref v5, .int 0, .int 0, .int (nI 0)])), (v5, .inl (cy 1, 16, .inl (fun _ => (0 : Int32))))]) (wr := []) X (ZI_ok _ _ _ _ _ _ _ _) [0, 1] [] rfl rfl rfl rfl (by decide) (hM := (t_bappT (l := l) (D := D) (cy := cy) (aK := aK) (aO := aO) (aS := aS) (aV := aV) (aT := aT) (bS := bS) (bV := bV) (dA := dA) (q := q_2) (v := v5) (cap := 16) (n9 := 0) (ml := 0) (f := (fun _ => (0 : Int32))) (i := 0) (by decide) (by decide) (by decide) (by omega) sb_fit0)) (st := []) (mcq := 1) (msq := 262) (a9 := ([.ref q_2, .ref (bS 0)] : List Value).toArray) (fun H locs ls hP hD hSs hl0 => ?_) ?_
      · exact va_runV (As := [.ref (bS 0)]) X.1 ((t_bappT (l := l) (D := D) (cy := cy) (aK := aK) (aO := aO) (aS := aS) (aV := aV) (aT := aT) (bS := bS) (bV := bV) (dA := dA) (q := q_2) (v := v5) (cap := 16) (n9 := 0) (ml := 0) (f := (fun _ => (0 : Int32))) (i := 0) (by decide) (by decide) (by decide) (by omega) sb_fit0) H.size) (cwV 1 X.1.2.2.2.2 gL_bound_J4_append_15ec4 rfl rfl rfl (by decide +kernel) ⟨Nat.le_of_ble_eq_true rfl, Nat.le_of_ble_eq_true rfl⟩) ⟨gPre_blind (ZI_ok _ _ _ _ _ _ _ _), va_recv (q0 := 0) X.2.1 hP rfl rfl, (gPre_of (ZI_ok _ _ _ _ _ _ _ _) X.2.1 X.2.2.1 X.2.2.2.1 hP hD hSs).2⟩ rfl rfl hl0.1 rfl (lv_room (Nat.le_of_ble_eq_true rfl)) dL_bound_13 ⟨by show 2 + 1 ≤ 6; omega, by show 0 + 4 + 16 + 262 ≤ 810; omega⟩
      rintro r9 u9 ⟨rfl, v6, c6, f6, rfl, hc6, hn6, hf6, lo6, hi6⟩
      have hl6 := lt_app (lt2_0 _) (tT_lt (by decide)) lo6 hi6
      refine g_weq (ws9 := [(q_2, .inr (1, [.ref v6, .int 0, .int 0, .int (nI (0 + tL 0))])), (v6, .inl (cy 1, c6, .inl f6))]) rfl ?_
      refine g_iload_n X dL_bound_16 rfl 0 rfl ?_
      refine g_ineg X dL_bound_17 ?_
      refine g_top (y := nI w) (Int32.neg_neg) ?_
      refine w_afterQ (W1 := []) (w := [(q_2, .inr (1, [.ref v6, .int 0, .int 0, .int (nI (0 + tL 0))])), (v6, .inl (cy 1, c6, .inl f6))]) (wc := [(q_2, .inr (1, [.ref v6, .int 0, .int 0, .int (nI (0 + tL 0))])), (v6, .inl (cy 1, c6, .inl f6))]) (wr := []) X (ZI_ok _ _ _ _ _ _ _ _) [0, 1] [] rfl rfl rfl rfl (by decide) (hM := (t_bint (l := l) (D := D) (cy := cy) (aK := aK) (aO := aO) (aS := aS) (aV := aV) (aT := aT) (bS := bS) (bV := bV) (dA := dA) (q := q_2) (v := v6) (cap := c6) (n9 := (0 + tL 0)) (ml := 0) (f := f6) (w := w) hw hc6 hn6 (by omega) hf6)) (st := []) (mcq := 1) (msq := 262) (a9 := ([.ref q_2, .int (nI w)] : List Value).toArray) (fun H locs ls hP hD hSs hl0 => ?_) ?_
      · exact va_runV (As := [.int (nI w)]) X.1 ((t_bint (l := l) (D := D) (cy := cy) (aK := aK) (aO := aO) (aS := aS) (aV := aV) (aT := aT) (bS := bS) (bV := bV) (dA := dA) (q := q_2) (v := v6) (cap := c6) (n9 := (0 + tL 0)) (ml := 0) (f := f6) (w := w) hw hc6 hn6 (by omega) hf6) H.size) (cwV 1 X.1.2.2.2.2 gL_bound_J4_append_bf812 rfl rfl rfl (by decide +kernel) ⟨Nat.le_of_ble_eq_true rfl, Nat.le_of_ble_eq_true rfl⟩) ⟨gPre_blind (ZI_ok _ _ _ _ _ _ _ _), va_recv (q0 := 0) X.2.1 hP rfl rfl, (gPre_of (ZI_ok _ _ _ _ _ _ _ _) X.2.1 X.2.2.1 X.2.2.2.1 hP hD hSs).2⟩ rfl rfl hl0.1 rfl (lv_room (Nat.le_of_ble_eq_true rfl)) dL_bound_18 ⟨by show 3 + 1 ≤ 6; omega, by show 0 + 4 + 16 + 262 + 262 ≤ 810; omega⟩
      rintro r9 u9 ⟨rfl, v7, c7, f7, rfl, hc7, hn7, hf7, lo7, hi7⟩
      have hl7 := lt_int hl6 hw lo7 hi7
      refine g_weq (ws9 := [(q_2, .inr (1, [.ref v7, .int 0, .int 0, .int (nI (0 + tL 0 + sb_dg w))])), (v7, .inl (cy 1, c7, .inl f7))]) rfl ?_
      refine w_afterQ (W1 := []) (w := [(q_2, .inr (1, [.ref v7, .int 0, .int 0, .int (nI (0 + tL 0 + sb_dg w))])), (v7, .inl (cy 1, c7, .inl f7))]) (wc := [(q_2, .inr (1, [.ref v7, .int 0, .int 0, .int (nI (0 + tL 0 + sb_dg w))])), (v7, .inl (cy 1, c7, .inl f7))]) (wr := []) X (ZI_ok _ _ _ _ _ _ _ _) [0, 1] [] rfl rfl rfl rfl (by decide) (hM := (t_toS (l := l) (D := D) (cy := cy) (aK := aK) (aO := aO) (aS := aS) (aV := aV) (aT := aT) (bS := bS) (bV := bV) (dA := dA) (q := q_2) (v := v7) (cap := c7) (n9 := (0 + tL 0 + sb_dg w)) (ml := 0) (f := f7) hn7 hc7 hf7)) (st := []) (mcq := 2) (msq := 266) (a9 := ([.ref q_2] : List Value).toArray) (fun H locs ls hP hD hSs hl0 => ?_) ?_
      · exact va_runV (As := []) X.1 ((t_toS (l := l) (D := D) (cy := cy) (aK := aK) (aO := aO) (aS := aS) (aV := aV) (aT := aT) (bS := bS) (bV := bV) (dA := dA) (q := q_2) (v := v7) (cap := c7) (n9 := (0 + tL 0 + sb_dg w)) (ml := 0) (f := f7) hn7 hc7 hf7) H.size) (cwV 0 X.1.2.2.2.2 gL_bound_J4_toString_0e30d rfl rfl rfl (by decide +kernel) ⟨Nat.le_of_ble_eq_true rfl, Nat.le_of_ble_eq_true rfl⟩) ⟨gPre_blind (ZI_ok _ _ _ _ _ _ _ _), va_recv (q0 := 0) X.2.1 hP rfl rfl, (gPre_of (ZI_ok _ _ _ _ _ _ _ _) X.2.1 X.2.2.1 X.2.2.2.1 hP hD hSs).2⟩ rfl rfl hl0.1 rfl (lv_room (Nat.le_of_ble_eq_true rfl)) dL_bound_21 ⟨by show 4 + 2 ≤ 6; omega, by show 0 + 4 + 16 + 262 + 262 + 266 ≤ 810; omega⟩
      rintro r9 u9 ⟨q_s8, vs8, fs8, rfl, rfl, hfs8, ls8⟩
      have hls8 := lt_eq hl7 ls8
      refine g_weq (ws9 := [(q_s8, .inr (0, [.ref vs8, .int 0, .int 0, .int 0])), (vs8, .inl (cy 1, (0 + tL 0 + sb_dg w), .inl fs8))]) rfl ?_
      refine g_goto X (tgt := 46) dL_bound_24 (by decide) ?_
      refine g_wid (k' := 6) (n' := 810) (by omega) (by omega) ?_
      exact g_aret (Wf := fun w9 : va_W => w9) (u := [(q_s8, .inr (0, [.ref vs8, .int 0, .int 0, .int 0])), (vs8, .inl (cy 1, (0 + tL 0 + sb_dg w), .inl fs8))]) X (Or.inl ⟨_, rfl⟩) (⟨_, _, _, _, rfl, rfl, hfs8, hls8⟩) dL_bound_46
  exact K0
end TM
