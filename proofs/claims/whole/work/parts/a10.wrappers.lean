/-! the law's wrappers: they lay the answer into the array and return 0, or catch the throw and return its number -/
def oL (cy : Nat → ClassId) (A aK : Nat → Nat) (qo : Nat) (X8 : va_W) : St × (Nat → Int64) → va_W := fun u => cW cy A aK ((qo, .inl (cy 5, 1, .inr (.inl u.2))) :: X8) u.1
def oD (cy : Nat → ClassId) (A aK : Nat → Nat) (qo9 : Nat) (e9 : va_E) (qo : Nat) (X8 : va_W) : St × (Nat → UInt64) → va_W := fun u => cW cy A aK ((qo9, e9) :: (qo, .inl (cy 6, 1, .inr (.inr (.inr (.inl u.2))))) :: X8) u.1
theorem cL_len : cL.length = 85 := rfl
section W85
variable (cy : Nat → ClassId) (A aK : Nat → Nat) (X8 : va_W) (σ : St)
theorem cW_at {X9 : va_W} (i : Nat) : (cW cy A aK X9 σ)[85 + i]? = X9[i]? := by
  unfold cW wF
  rw [List.getElem?_append_right (by rw [List.length_map, cL_len]; exact Nat.le_add_right _ _), List.length_map, cL_len, Nat.add_sub_cancel_left]
theorem cW_st {X9 : va_W} (i : Nat) (q : Nat × va_E) : (cW cy A aK X9 σ).set (85 + i) q = cW cy A aK (X9.set i q) σ := by
  unfold cW wF
  rw [List.set_append_right _ _ (by rw [List.length_map, cL_len]; exact Nat.le_add_right _ _), List.length_map, cL_len, Nat.add_sub_cancel_left]
theorem cW_85 {q : Nat × va_E} : (cW cy A aK (q :: X8) σ)[85]? = some q := cW_at cy A aK σ 0
theorem cW_86 {q q2 : Nat × va_E} : (cW cy A aK (q :: q2 :: X8) σ)[86]? = some q2 := cW_at cy A aK σ 1
theorem cW_s85 {q : Nat × va_E} (q' : Nat × va_E) : (cW cy A aK (q :: X8) σ).set 85 q' = cW cy A aK (q' :: X8) σ := cW_st cy A aK σ 0 q'
theorem cW_s86 {q q2 : Nat × va_E} (q' : Nat × va_E) : (cW cy A aK (q :: q2 :: X8) σ).set 86 q' = cW cy A aK (q :: q' :: X8) σ := cW_st cy A aK σ 1 q'
end W85
def wzL_middle : List Cond := .codeWith yL_middle cL_middle 4 (some .int) [(0, 9, 12, 19), (0, 9, 15, 109)] :: ([Cond.classLink RX10 244 "java/util/NoSuchElementException", Cond.initialized "java/util/NoSuchElementException"] ++ (wsL_middle_r1 ++ (wsL_middle_r2 ++ (wsL_middle_r3 ++ wsL_middle_r4))) ++ wsX60 ++ wsX100 ++ wsX80 ++ wsX10 ++ zGood13 ++ (vx_atS RX10 127 "java/lang/IndexOutOfBoundsException" ["java/lang/RuntimeException", "java/lang/Exception"]).filter goodWord)
set_option maxRecDepth 100000 in
theorem gZL_middle_X10_middle : GoodIn wzL_middle (wsV RL 106 RX10 yX10_middle wzX10_middle) := goodIn_of _ (by decide +kernel)
section WR
variable {cy : Nat → ClassId} {A aK aO aS aV aT : Nat → Nat} {D : va_G} {l : Launch} {qo qo9 : Nat} {e9 : va_E} {X8 : va_W}
set_option maxHeartbeats 8000000 in
set_option maxRecDepth 100000 in
theorem w_type_ok {f : Nat → Int64} {σ σ' : St} {a1 : Int64} (hl : l.stackTraces = false) {v : Int32} (h : f_X10_type a1 σ = some (.inr v, σ')) : wI (ZL aK aO aS aV aT) D (cyT cy) l yL_type wsL_type ({ frames := 7, cells := 1, slots := 6, locals := 152 } : Room) (oL cy A aK qo X8) [.ref (A 0), .long a1, .ref qo] (σ, f) 0 (σ', (vp_updL f 0 v.toInt64)) 1 6 := by
  refine wI_of (cc := cL_type) (maxL := 5) (ret := (some .int)) (hh := [(0, 9, 12, 13)]) (by decide) rfl (Nat.le_of_ble_eq_true rfl) (fun p e s m args below meth c B X hx => ?_)
  have K0 : gG p l e ({ frames := 7, cells := 1, slots := 6, locals := 152 } : Room) s m args below meth c D (cyT cy) B 5 (MQ below (va_Qi (fun (r' : Int32) (u : St × (Nat → Int64)) => r' = 0 ∧ u = (σ', (vp_updL f 0 v.toInt64))) (gAt D (cyT cy) (oL cy A aK qo X8) B) B) args s 1 6 B) (cW cy A aK ((qo, .inl (cy 5, 1, .inr (.inl f))) :: X8) σ) 0 0 0 [(0, .ref (A 0)), (1, .long a1), (3, .ref qo)] [] := by
    refine g_aload_n X dL_type_0 rfl 2 rfl ?_
    refine g_iconst X dL_type_1 (v := (0 : Int32)) (by decide) ?_
    refine g_aload_n X dL_type_2 rfl 0 rfl ?_
    refine g_lload_n X dL_type_3 rfl 1 rfl ?_
    refine g_xVI_ret (AD := A) (As := [.long a1]) X (ZL_ok _ _ _ _ _) (xI_up (m_X10_type hl h)) (cwV 1 X.1.2.2.2.2 gL_type_X10_type rfl rfl rfl (by decide +kernel) ⟨Nat.le_of_ble_eq_true rfl, Nat.le_of_ble_eq_true rfl⟩) rfl cm0 (cE_0 cy A aK σ) rfl rfl (Nat.le_of_ble_eq_true rfl) ⟨by decide, by decide⟩ dL_type_4 (k' := 1) (n' := 6) (by decide) (by decide) ?_
    refine g_i2l X dL_type_7 ?_
    refine g_last X 85 5 (cW_85 _ _ _ _ _) rfl (vp_in_nI (n := 0) (N := 1) (by decide) (by decide)) dL_type_8 (cW_s85 _ _ _ _ _ _) ?_
    refine g_goto X (tgt := 16) dL_type_9 (by decide) ?_
    refine g_iconst X dL_type_16 (v := (0 : Int32)) (by decide) ?_
    exact g_iret (Wf := (oL cy A aK qo X8)) (u := (σ', (vp_updL f 0 v.toInt64))) X ⟨rfl, rfl⟩ dL_type_17
  exact K0
set_option maxHeartbeats 8000000 in
set_option maxRecDepth 100000 in
theorem w_type_x1 {f : Nat → Int64} {σ σ' : St} {a1 : Int64} (hl : l.stackTraces = false) (h : f_X10_type a1 σ = some (.inl "java/lang/IllegalStateException", σ')) : wI (ZL aK aO aS aV aT) D (cyT cy) l yL_type wsL_type ({ frames := 7, cells := 1, slots := 6, locals := 152 } : Room) (oL cy A aK qo X8) [.ref (A 0), .long a1, .ref qo] (σ, f) 1 (σ', f) 1 6 := by
  refine wI_of (cc := cL_type) (maxL := 5) (ret := (some .int)) (hh := [(0, 9, 12, 13)]) (by decide) rfl (Nat.le_of_ble_eq_true rfl) (fun p e s m args below meth c B X hx => ?_)
  have K0 : gG p l e ({ frames := 7, cells := 1, slots := 6, locals := 152 } : Room) s m args below meth c D (cyT cy) B 5 (MQ below (va_Qi (fun (r' : Int32) (u : St × (Nat → Int64)) => r' = 1 ∧ u = (σ', f)) (gAt D (cyT cy) (oL cy A aK qo X8) B) B) args s 1 6 B) (cW cy A aK ((qo, .inl (cy 5, 1, .inr (.inl f))) :: X8) σ) 0 0 0 [(0, .ref (A 0)), (1, .long a1), (3, .ref qo)] [] := by
    refine g_aload_n X dL_type_0 rfl 2 rfl ?_
    refine g_iconst X dL_type_1 (v := (0 : Int32)) (by decide) ?_
    refine g_aload_n X dL_type_2 rfl 0 rfl ?_
    refine g_lload_n X dL_type_3 rfl 1 rfl ?_
    refine g_xVI_cat (AD := A) (As := [.long a1]) (E0 := "java/lang/IllegalStateException") (name := "java/lang/IllegalStateException") X (ZL_ok _ _ _ _ _) (xI_up (m_X10_type hl h)) (cwV 1 X.1.2.2.2.2 gL_type_X10_type rfl rfl rfl (by decide +kernel) ⟨Nat.le_of_ble_eq_true rfl, Nat.le_of_ble_eq_true rfl⟩) rfl cm0 (cE_0 cy A aK σ) rfl rfl (Nat.le_of_ble_eq_true rfl) ⟨by decide, by decide⟩ dL_type_4 (k' := 1) (n' := 6) (by decide) (by decide) [] ⟨0, 9, 12, 13⟩ [] (by rw [hx]; rfl) (fun z hz => (nomatch hz)) (by decide) (by decide) (X.1.2.2.2.2 _ (by decide +kernel)) (va_Nw.use rfl (X.2.2.2.1.1.1.2.2.2.2.1 _ (by decide))) (fun q9 => ?_)
    refine g_astore X dL_type_12 (by decide) rfl ?_
    refine g_iconst X dL_type_14 (v := (1 : Int32)) (by decide) ?_
    exact g_iret (Wf := (oL cy A aK qo X8)) (u := (σ', f)) X ⟨rfl, rfl⟩ dL_type_15
  exact K0
set_option maxHeartbeats 8000000 in
set_option maxRecDepth 100000 in
theorem w_lay_ok {f : Nat → Int64} {σ σ' : St} {a1 : Int32} (hl : l.stackTraces = false) {v : Int32} (h : f_X10_lay a1 σ = some (.inr v, σ')) : wI (ZL aK aO aS aV aT) D (cyT cy) l yL_lay wsL_lay ({ frames := 12, cells := 4, slots := 24, locals := 311 } : Room) (oL cy A aK qo X8) [.ref (A 0), .int a1, .ref qo] (σ, f) 0 (σ', (vp_updL f 0 v.toInt64)) 4 24 := by
  refine wI_of (cc := cL_lay) (maxL := 4) (ret := (some .int)) (hh := [(0, 9, 12, 19), (0, 9, 15, 13)]) (by decide) rfl (Nat.le_of_ble_eq_true rfl) (fun p e s m args below meth c B X hx => ?_)
  have K0 : gG p l e ({ frames := 12, cells := 4, slots := 24, locals := 311 } : Room) s m args below meth c D (cyT cy) B 4 (MQ below (va_Qi (fun (r' : Int32) (u : St × (Nat → Int64)) => r' = 0 ∧ u = (σ', (vp_updL f 0 v.toInt64))) (gAt D (cyT cy) (oL cy A aK qo X8) B) B) args s 4 24 B) (cW cy A aK ((qo, .inl (cy 5, 1, .inr (.inl f))) :: X8) σ) 0 0 0 [(0, .ref (A 0)), (1, .int a1), (2, .ref qo)] [] := by
    refine g_aload_n X dL_lay_0 rfl 2 rfl ?_
    refine g_iconst X dL_lay_1 (v := (0 : Int32)) (by decide) ?_
    refine g_aload_n X dL_lay_2 rfl 0 rfl ?_
    refine g_iload_n X dL_lay_3 rfl 1 rfl ?_
    refine g_xVI_ret (AD := A) (As := [.int a1]) X (ZL_ok _ _ _ _ _) (xI_up (m_X10_lay hl h)) (cwV 1 X.1.2.2.2.2 gL_lay_X10_lay rfl rfl rfl (by decide +kernel) ⟨Nat.le_of_ble_eq_true rfl, Nat.le_of_ble_eq_true rfl⟩) rfl cm0 (cE_0 cy A aK σ) rfl rfl (Nat.le_of_ble_eq_true rfl) ⟨by decide, by decide⟩ dL_lay_4 (k' := 4) (n' := 24) (by decide) (by decide) ?_
    refine g_i2l X dL_lay_7 ?_
    refine g_last X 85 5 (cW_85 _ _ _ _ _) rfl (vp_in_nI (n := 0) (N := 1) (by decide) (by decide)) dL_lay_8 (cW_s85 _ _ _ _ _ _) ?_
    refine g_goto X (tgt := 18) dL_lay_9 (by decide) ?_
    refine g_iconst X dL_lay_18 (v := (0 : Int32)) (by decide) ?_
    exact g_iret (Wf := (oL cy A aK qo X8)) (u := (σ', (vp_updL f 0 v.toInt64))) X ⟨rfl, rfl⟩ dL_lay_19
  exact K0
set_option maxHeartbeats 8000000 in
set_option maxRecDepth 100000 in
theorem w_lay_x1 {f : Nat → Int64} {σ σ' : St} {a1 : Int32} (hl : l.stackTraces = false) (h : f_X10_lay a1 σ = some (.inl "java/lang/IndexOutOfBoundsException", σ')) : wI (ZL aK aO aS aV aT) D (cyT cy) l yL_lay wsL_lay ({ frames := 12, cells := 4, slots := 24, locals := 311 } : Room) (oL cy A aK qo X8) [.ref (A 0), .int a1, .ref qo] (σ, f) 1 (σ', f) 4 24 := by
  refine wI_of (cc := cL_lay) (maxL := 4) (ret := (some .int)) (hh := [(0, 9, 12, 19), (0, 9, 15, 13)]) (by decide) rfl (Nat.le_of_ble_eq_true rfl) (fun p e s m args below meth c B X hx => ?_)
  have K0 : gG p l e ({ frames := 12, cells := 4, slots := 24, locals := 311 } : Room) s m args below meth c D (cyT cy) B 4 (MQ below (va_Qi (fun (r' : Int32) (u : St × (Nat → Int64)) => r' = 1 ∧ u = (σ', f)) (gAt D (cyT cy) (oL cy A aK qo X8) B) B) args s 4 24 B) (cW cy A aK ((qo, .inl (cy 5, 1, .inr (.inl f))) :: X8) σ) 0 0 0 [(0, .ref (A 0)), (1, .int a1), (2, .ref qo)] [] := by
    refine g_aload_n X dL_lay_0 rfl 2 rfl ?_
    refine g_iconst X dL_lay_1 (v := (0 : Int32)) (by decide) ?_
    refine g_aload_n X dL_lay_2 rfl 0 rfl ?_
    refine g_iload_n X dL_lay_3 rfl 1 rfl ?_
    refine g_xVI_cat (AD := A) (As := [.int a1]) (E0 := "java/lang/IndexOutOfBoundsException") (name := "java/lang/IndexOutOfBoundsException") X (ZL_ok _ _ _ _ _) (xI_up (m_X10_lay hl h)) (cwV 1 X.1.2.2.2.2 gL_lay_X10_lay rfl rfl rfl (by decide +kernel) ⟨Nat.le_of_ble_eq_true rfl, Nat.le_of_ble_eq_true rfl⟩) rfl cm0 (cE_0 cy A aK σ) rfl rfl (Nat.le_of_ble_eq_true rfl) ⟨by decide, by decide⟩ dL_lay_4 (k' := 4) (n' := 24) (by decide) (by decide) [] ⟨0, 9, 12, 19⟩ [⟨0, 9, 15, 13⟩] (by rw [hx]; rfl) (fun z hz => (nomatch hz)) (by decide) (by decide) (X.1.2.2.2.2 _ (by decide +kernel)) (va_Nw.use rfl (X.2.2.2.1.1.1.2.2.2.2.1 _ (by decide))) (fun q9 => ?_)
    refine g_astore_n X dL_lay_12 rfl (by decide) rfl ?_
    refine g_iconst X dL_lay_13 (v := (1 : Int32)) (by decide) ?_
    exact g_iret (Wf := (oL cy A aK qo X8)) (u := (σ', f)) X ⟨rfl, rfl⟩ dL_lay_14
  exact K0
set_option maxHeartbeats 8000000 in
set_option maxRecDepth 100000 in
theorem w_lay_x2 {f : Nat → Int64} {σ σ' : St} {a1 : Int32} (hl : l.stackTraces = false) (h : f_X10_lay a1 σ = some (.inl "java/lang/IllegalStateException", σ')) : wI (ZL aK aO aS aV aT) D (cyT cy) l yL_lay wsL_lay ({ frames := 12, cells := 4, slots := 24, locals := 311 } : Room) (oL cy A aK qo X8) [.ref (A 0), .int a1, .ref qo] (σ, f) 2 (σ', f) 4 24 := by
  refine wI_of (cc := cL_lay) (maxL := 4) (ret := (some .int)) (hh := [(0, 9, 12, 19), (0, 9, 15, 13)]) (by decide) rfl (Nat.le_of_ble_eq_true rfl) (fun p e s m args below meth c B X hx => ?_)
  have K0 : gG p l e ({ frames := 12, cells := 4, slots := 24, locals := 311 } : Room) s m args below meth c D (cyT cy) B 4 (MQ below (va_Qi (fun (r' : Int32) (u : St × (Nat → Int64)) => r' = 2 ∧ u = (σ', f)) (gAt D (cyT cy) (oL cy A aK qo X8) B) B) args s 4 24 B) (cW cy A aK ((qo, .inl (cy 5, 1, .inr (.inl f))) :: X8) σ) 0 0 0 [(0, .ref (A 0)), (1, .int a1), (2, .ref qo)] [] := by
    refine g_aload_n X dL_lay_0 rfl 2 rfl ?_
    refine g_iconst X dL_lay_1 (v := (0 : Int32)) (by decide) ?_
    refine g_aload_n X dL_lay_2 rfl 0 rfl ?_
    refine g_iload_n X dL_lay_3 rfl 1 rfl ?_
    refine g_xVI_cat (AD := A) (As := [.int a1]) (E0 := "java/lang/IllegalStateException") (name := "java/lang/IllegalStateException") X (ZL_ok _ _ _ _ _) (xI_up (m_X10_lay hl h)) (cwV 1 X.1.2.2.2.2 gL_lay_X10_lay rfl rfl rfl (by decide +kernel) ⟨Nat.le_of_ble_eq_true rfl, Nat.le_of_ble_eq_true rfl⟩) rfl cm0 (cE_0 cy A aK σ) rfl rfl (Nat.le_of_ble_eq_true rfl) ⟨by decide, by decide⟩ dL_lay_4 (k' := 4) (n' := 24) (by decide) (by decide) [⟨0, 9, 12, 19⟩] ⟨0, 9, 15, 13⟩ [] (by rw [hx]; rfl) (fun z hz => by
      simp only [List.mem_cons, List.not_mem_nil, or_false] at hz
      rcases hz with rfl
      · exact Or.inr ⟨by decide, "java/lang/IndexOutOfBoundsException", X.1.2.2.2.2 _ (by decide +kernel), X.2.2.2.1.2 "java/lang/IllegalStateException" (by decide) "java/lang/IndexOutOfBoundsException" (by decide) (by decide)⟩) (by decide) (by decide) (X.1.2.2.2.2 _ (by decide +kernel)) (va_Nw.use rfl (X.2.2.2.1.1.1.2.2.2.2.1 _ (by decide))) (fun q9 => ?_)
    refine g_astore_n X dL_lay_15 rfl (by decide) rfl ?_
    refine g_iconst X dL_lay_16 (v := (2 : Int32)) (by decide) ?_
    exact g_iret (Wf := (oL cy A aK qo X8)) (u := (σ', f)) X ⟨rfl, rfl⟩ dL_lay_17
  exact K0
set_option maxHeartbeats 8000000 in
set_option maxRecDepth 100000 in
theorem w_put_ok {f : Nat → Int64} {σ σ' : St} {a1 : Int32} {a2 : Int32} {a3 : Int32} {a4 : Int32} (hl : l.stackTraces = false) {v : Int32} (h : f_X10_put a1 a2 a3 a4 σ = some (.inr v, σ')) : wI (ZL aK aO aS aV aT) D (cyT cy) l yL_put wsL_put ({ frames := 8, cells := 4, slots := 24, locals := 177 } : Room) (oL cy A aK qo X8) [.ref (A 0), .int a1, .int a2, .int a3, .int a4, .ref qo] (σ, f) 0 (σ', (vp_updL f 0 v.toInt64)) 4 24 := by
  refine wI_of (cc := cL_put) (maxL := 7) (ret := (some .int)) (hh := [(0, 14, 17, 19), (0, 14, 21, 13)]) (by decide) rfl (Nat.le_of_ble_eq_true rfl) (fun p e s m args below meth c B X hx => ?_)
  have K0 : gG p l e ({ frames := 8, cells := 4, slots := 24, locals := 177 } : Room) s m args below meth c D (cyT cy) B 7 (MQ below (va_Qi (fun (r' : Int32) (u : St × (Nat → Int64)) => r' = 0 ∧ u = (σ', (vp_updL f 0 v.toInt64))) (gAt D (cyT cy) (oL cy A aK qo X8) B) B) args s 4 24 B) (cW cy A aK ((qo, .inl (cy 5, 1, .inr (.inl f))) :: X8) σ) 0 0 0 [(0, .ref (A 0)), (1, .int a1), (2, .int a2), (3, .int a3), (4, .int a4), (5, .ref qo)] [] := by
    refine g_aload X dL_put_0 5 rfl ?_
    refine g_iconst X dL_put_2 (v := (0 : Int32)) (by decide) ?_
    refine g_aload_n X dL_put_3 rfl 0 rfl ?_
    refine g_iload_n X dL_put_4 rfl 1 rfl ?_
    refine g_iload_n X dL_put_5 rfl 2 rfl ?_
    refine g_iload_n X dL_put_6 rfl 3 rfl ?_
    refine g_iload X dL_put_7 4 rfl ?_
    refine g_xVI_ret (AD := A) (As := [.int a1, .int a2, .int a3, .int a4]) X (ZL_ok _ _ _ _ _) (xI_up (m_X10_put hl h)) (cwV 4 X.1.2.2.2.2 gL_put_X10_put rfl rfl rfl (by decide +kernel) ⟨Nat.le_of_ble_eq_true rfl, Nat.le_of_ble_eq_true rfl⟩) rfl cm0 (cE_0 cy A aK σ) rfl rfl (Nat.le_of_ble_eq_true rfl) ⟨by decide, by decide⟩ dL_put_9 (k' := 4) (n' := 24) (by decide) (by decide) ?_
    refine g_i2l X dL_put_12 ?_
    refine g_last X 85 5 (cW_85 _ _ _ _ _) rfl (vp_in_nI (n := 0) (N := 1) (by decide) (by decide)) dL_put_13 (cW_s85 _ _ _ _ _ _) ?_
    refine g_goto X (tgt := 25) dL_put_14 (by decide) ?_
    refine g_iconst X dL_put_25 (v := (0 : Int32)) (by decide) ?_
    exact g_iret (Wf := (oL cy A aK qo X8)) (u := (σ', (vp_updL f 0 v.toInt64))) X ⟨rfl, rfl⟩ dL_put_26
  exact K0
set_option maxHeartbeats 8000000 in
set_option maxRecDepth 100000 in
theorem w_put_x1 {f : Nat → Int64} {σ σ' : St} {a1 : Int32} {a2 : Int32} {a3 : Int32} {a4 : Int32} (hl : l.stackTraces = false) (h : f_X10_put a1 a2 a3 a4 σ = some (.inl "java/lang/IndexOutOfBoundsException", σ')) : wI (ZL aK aO aS aV aT) D (cyT cy) l yL_put wsL_put ({ frames := 8, cells := 4, slots := 24, locals := 177 } : Room) (oL cy A aK qo X8) [.ref (A 0), .int a1, .int a2, .int a3, .int a4, .ref qo] (σ, f) 1 (σ', f) 4 24 := by
  refine wI_of (cc := cL_put) (maxL := 7) (ret := (some .int)) (hh := [(0, 14, 17, 19), (0, 14, 21, 13)]) (by decide) rfl (Nat.le_of_ble_eq_true rfl) (fun p e s m args below meth c B X hx => ?_)
  have K0 : gG p l e ({ frames := 8, cells := 4, slots := 24, locals := 177 } : Room) s m args below meth c D (cyT cy) B 7 (MQ below (va_Qi (fun (r' : Int32) (u : St × (Nat → Int64)) => r' = 1 ∧ u = (σ', f)) (gAt D (cyT cy) (oL cy A aK qo X8) B) B) args s 4 24 B) (cW cy A aK ((qo, .inl (cy 5, 1, .inr (.inl f))) :: X8) σ) 0 0 0 [(0, .ref (A 0)), (1, .int a1), (2, .int a2), (3, .int a3), (4, .int a4), (5, .ref qo)] [] := by
    refine g_aload X dL_put_0 5 rfl ?_
    refine g_iconst X dL_put_2 (v := (0 : Int32)) (by decide) ?_
    refine g_aload_n X dL_put_3 rfl 0 rfl ?_
    refine g_iload_n X dL_put_4 rfl 1 rfl ?_
    refine g_iload_n X dL_put_5 rfl 2 rfl ?_
    refine g_iload_n X dL_put_6 rfl 3 rfl ?_
    refine g_iload X dL_put_7 4 rfl ?_
    refine g_xVI_cat (AD := A) (As := [.int a1, .int a2, .int a3, .int a4]) (E0 := "java/lang/IndexOutOfBoundsException") (name := "java/lang/IndexOutOfBoundsException") X (ZL_ok _ _ _ _ _) (xI_up (m_X10_put hl h)) (cwV 4 X.1.2.2.2.2 gL_put_X10_put rfl rfl rfl (by decide +kernel) ⟨Nat.le_of_ble_eq_true rfl, Nat.le_of_ble_eq_true rfl⟩) rfl cm0 (cE_0 cy A aK σ) rfl rfl (Nat.le_of_ble_eq_true rfl) ⟨by decide, by decide⟩ dL_put_9 (k' := 4) (n' := 24) (by decide) (by decide) [] ⟨0, 14, 17, 19⟩ [⟨0, 14, 21, 13⟩] (by rw [hx]; rfl) (fun z hz => (nomatch hz)) (by decide) (by decide) (X.1.2.2.2.2 _ (by decide +kernel)) (va_Nw.use rfl (X.2.2.2.1.1.1.2.2.2.2.1 _ (by decide))) (fun q9 => ?_)
    refine g_astore X dL_put_17 (by decide) rfl ?_
    refine g_iconst X dL_put_19 (v := (1 : Int32)) (by decide) ?_
    exact g_iret (Wf := (oL cy A aK qo X8)) (u := (σ', f)) X ⟨rfl, rfl⟩ dL_put_20
  exact K0
set_option maxHeartbeats 8000000 in
set_option maxRecDepth 100000 in
theorem w_put_x2 {f : Nat → Int64} {σ σ' : St} {a1 : Int32} {a2 : Int32} {a3 : Int32} {a4 : Int32} (hl : l.stackTraces = false) (h : f_X10_put a1 a2 a3 a4 σ = some (.inl "java/lang/IllegalStateException", σ')) : wI (ZL aK aO aS aV aT) D (cyT cy) l yL_put wsL_put ({ frames := 8, cells := 4, slots := 24, locals := 177 } : Room) (oL cy A aK qo X8) [.ref (A 0), .int a1, .int a2, .int a3, .int a4, .ref qo] (σ, f) 2 (σ', f) 4 24 := by
  refine wI_of (cc := cL_put) (maxL := 7) (ret := (some .int)) (hh := [(0, 14, 17, 19), (0, 14, 21, 13)]) (by decide) rfl (Nat.le_of_ble_eq_true rfl) (fun p e s m args below meth c B X hx => ?_)
  have K0 : gG p l e ({ frames := 8, cells := 4, slots := 24, locals := 177 } : Room) s m args below meth c D (cyT cy) B 7 (MQ below (va_Qi (fun (r' : Int32) (u : St × (Nat → Int64)) => r' = 2 ∧ u = (σ', f)) (gAt D (cyT cy) (oL cy A aK qo X8) B) B) args s 4 24 B) (cW cy A aK ((qo, .inl (cy 5, 1, .inr (.inl f))) :: X8) σ) 0 0 0 [(0, .ref (A 0)), (1, .int a1), (2, .int a2), (3, .int a3), (4, .int a4), (5, .ref qo)] [] := by
    refine g_aload X dL_put_0 5 rfl ?_
    refine g_iconst X dL_put_2 (v := (0 : Int32)) (by decide) ?_
    refine g_aload_n X dL_put_3 rfl 0 rfl ?_
    refine g_iload_n X dL_put_4 rfl 1 rfl ?_
    refine g_iload_n X dL_put_5 rfl 2 rfl ?_
    refine g_iload_n X dL_put_6 rfl 3 rfl ?_
    refine g_iload X dL_put_7 4 rfl ?_
    refine g_xVI_cat (AD := A) (As := [.int a1, .int a2, .int a3, .int a4]) (E0 := "java/lang/IllegalStateException") (name := "java/lang/IllegalStateException") X (ZL_ok _ _ _ _ _) (xI_up (m_X10_put hl h)) (cwV 4 X.1.2.2.2.2 gL_put_X10_put rfl rfl rfl (by decide +kernel) ⟨Nat.le_of_ble_eq_true rfl, Nat.le_of_ble_eq_true rfl⟩) rfl cm0 (cE_0 cy A aK σ) rfl rfl (Nat.le_of_ble_eq_true rfl) ⟨by decide, by decide⟩ dL_put_9 (k' := 4) (n' := 24) (by decide) (by decide) [⟨0, 14, 17, 19⟩] ⟨0, 14, 21, 13⟩ [] (by rw [hx]; rfl) (fun z hz => by
      simp only [List.mem_cons, List.not_mem_nil, or_false] at hz
      rcases hz with rfl
      · exact Or.inr ⟨by decide, "java/lang/IndexOutOfBoundsException", X.1.2.2.2.2 _ (by decide +kernel), X.2.2.2.1.2 "java/lang/IllegalStateException" (by decide) "java/lang/IndexOutOfBoundsException" (by decide) (by decide)⟩) (by decide) (by decide) (X.1.2.2.2.2 _ (by decide +kernel)) (va_Nw.use rfl (X.2.2.2.1.1.1.2.2.2.2.1 _ (by decide))) (fun q9 => ?_)
    refine g_astore X dL_put_21 (by decide) rfl ?_
    refine g_iconst X dL_put_23 (v := (2 : Int32)) (by decide) ?_
    exact g_iret (Wf := (oL cy A aK qo X8)) (u := (σ', f)) X ⟨rfl, rfl⟩ dL_put_24
  exact K0
set_option maxHeartbeats 8000000 in
set_option maxRecDepth 100000 in
theorem w_sort_ok {f : Nat → Int64} {σ σ' : St} {a1 : Int32} (hl : l.stackTraces = false) {v : Int32} (h : f_X10_sort a1 σ = some (.inr v, σ')) : wI (ZL aK aO aS aV aT) D (cyT cy) l yL_sort wsL_sort ({ frames := 8, cells := 1, slots := 6, locals := 186 } : Room) (oL cy A aK qo X8) [.ref (A 0), .int a1, .ref qo] (σ, f) 0 (σ', (vp_updL f 0 v.toInt64)) 1 6 := by
  refine wI_of (cc := cL_sort) (maxL := 4) (ret := (some .int)) (hh := [(0, 9, 12, 19)]) (by decide) rfl (Nat.le_of_ble_eq_true rfl) (fun p e s m args below meth c B X hx => ?_)
  have K0 : gG p l e ({ frames := 8, cells := 1, slots := 6, locals := 186 } : Room) s m args below meth c D (cyT cy) B 4 (MQ below (va_Qi (fun (r' : Int32) (u : St × (Nat → Int64)) => r' = 0 ∧ u = (σ', (vp_updL f 0 v.toInt64))) (gAt D (cyT cy) (oL cy A aK qo X8) B) B) args s 1 6 B) (cW cy A aK ((qo, .inl (cy 5, 1, .inr (.inl f))) :: X8) σ) 0 0 0 [(0, .ref (A 0)), (1, .int a1), (2, .ref qo)] [] := by
    refine g_aload_n X dL_sort_0 rfl 2 rfl ?_
    refine g_iconst X dL_sort_1 (v := (0 : Int32)) (by decide) ?_
    refine g_aload_n X dL_sort_2 rfl 0 rfl ?_
    refine g_iload_n X dL_sort_3 rfl 1 rfl ?_
    refine g_xVI_ret (AD := A) (As := [.int a1]) X (ZL_ok _ _ _ _ _) (xI_up (m_X10_sort hl h)) (cwV 1 X.1.2.2.2.2 gL_sort_X10_sort rfl rfl rfl (by decide +kernel) ⟨Nat.le_of_ble_eq_true rfl, Nat.le_of_ble_eq_true rfl⟩) rfl cm0 (cE_0 cy A aK σ) rfl rfl (Nat.le_of_ble_eq_true rfl) ⟨by decide, by decide⟩ dL_sort_4 (k' := 1) (n' := 6) (by decide) (by decide) ?_
    refine g_i2l X dL_sort_7 ?_
    refine g_last X 85 5 (cW_85 _ _ _ _ _) rfl (vp_in_nI (n := 0) (N := 1) (by decide) (by decide)) dL_sort_8 (cW_s85 _ _ _ _ _ _) ?_
    refine g_goto X (tgt := 15) dL_sort_9 (by decide) ?_
    refine g_iconst X dL_sort_15 (v := (0 : Int32)) (by decide) ?_
    exact g_iret (Wf := (oL cy A aK qo X8)) (u := (σ', (vp_updL f 0 v.toInt64))) X ⟨rfl, rfl⟩ dL_sort_16
  exact K0
set_option maxHeartbeats 8000000 in
set_option maxRecDepth 100000 in
theorem w_sort_x1 {f : Nat → Int64} {σ σ' : St} {a1 : Int32} (hl : l.stackTraces = false) (h : f_X10_sort a1 σ = some (.inl "java/lang/IndexOutOfBoundsException", σ')) : wI (ZL aK aO aS aV aT) D (cyT cy) l yL_sort wsL_sort ({ frames := 8, cells := 1, slots := 6, locals := 186 } : Room) (oL cy A aK qo X8) [.ref (A 0), .int a1, .ref qo] (σ, f) 1 (σ', f) 1 6 := by
  refine wI_of (cc := cL_sort) (maxL := 4) (ret := (some .int)) (hh := [(0, 9, 12, 19)]) (by decide) rfl (Nat.le_of_ble_eq_true rfl) (fun p e s m args below meth c B X hx => ?_)
  have K0 : gG p l e ({ frames := 8, cells := 1, slots := 6, locals := 186 } : Room) s m args below meth c D (cyT cy) B 4 (MQ below (va_Qi (fun (r' : Int32) (u : St × (Nat → Int64)) => r' = 1 ∧ u = (σ', f)) (gAt D (cyT cy) (oL cy A aK qo X8) B) B) args s 1 6 B) (cW cy A aK ((qo, .inl (cy 5, 1, .inr (.inl f))) :: X8) σ) 0 0 0 [(0, .ref (A 0)), (1, .int a1), (2, .ref qo)] [] := by
    refine g_aload_n X dL_sort_0 rfl 2 rfl ?_
    refine g_iconst X dL_sort_1 (v := (0 : Int32)) (by decide) ?_
    refine g_aload_n X dL_sort_2 rfl 0 rfl ?_
    refine g_iload_n X dL_sort_3 rfl 1 rfl ?_
    refine g_xVI_cat (AD := A) (As := [.int a1]) (E0 := "java/lang/IndexOutOfBoundsException") (name := "java/lang/IndexOutOfBoundsException") X (ZL_ok _ _ _ _ _) (xI_up (m_X10_sort hl h)) (cwV 1 X.1.2.2.2.2 gL_sort_X10_sort rfl rfl rfl (by decide +kernel) ⟨Nat.le_of_ble_eq_true rfl, Nat.le_of_ble_eq_true rfl⟩) rfl cm0 (cE_0 cy A aK σ) rfl rfl (Nat.le_of_ble_eq_true rfl) ⟨by decide, by decide⟩ dL_sort_4 (k' := 1) (n' := 6) (by decide) (by decide) [] ⟨0, 9, 12, 19⟩ [] (by rw [hx]; rfl) (fun z hz => (nomatch hz)) (by decide) (by decide) (X.1.2.2.2.2 _ (by decide +kernel)) (va_Nw.use rfl (X.2.2.2.1.1.1.2.2.2.2.1 _ (by decide))) (fun q9 => ?_)
    refine g_astore_n X dL_sort_12 rfl (by decide) rfl ?_
    refine g_iconst X dL_sort_13 (v := (1 : Int32)) (by decide) ?_
    exact g_iret (Wf := (oL cy A aK qo X8)) (u := (σ', f)) X ⟨rfl, rfl⟩ dL_sort_14
  exact K0
set_option maxHeartbeats 8000000 in
set_option maxRecDepth 100000 in
theorem w_sortPart_ok {f : Nat → Int64} {σ σ' : St} {a1 : Int32} {a2 : Int32} {a3 : Int32} (hl : l.stackTraces = false) {v : Int32} (h : f_X10_sortPart a1 a2 a3 σ = some (.inr v, σ')) : wI (ZL aK aO aS aV aT) D (cyT cy) l yL_sortPart wsL_sortPart ({ frames := 8, cells := 2, slots := 12, locals := 176 } : Room) (oL cy A aK qo X8) [.ref (A 0), .int a1, .int a2, .int a3, .ref qo] (σ, f) 0 (σ', (vp_updL f 0 v.toInt64)) 2 12 := by
  refine wI_of (cc := cL_sortPart) (maxL := 6) (ret := (some .int)) (hh := [(0, 12, 15, 19), (0, 12, 19, 32)]) (by decide) rfl (Nat.le_of_ble_eq_true rfl) (fun p e s m args below meth c B X hx => ?_)
  have K0 : gG p l e ({ frames := 8, cells := 2, slots := 12, locals := 176 } : Room) s m args below meth c D (cyT cy) B 6 (MQ below (va_Qi (fun (r' : Int32) (u : St × (Nat → Int64)) => r' = 0 ∧ u = (σ', (vp_updL f 0 v.toInt64))) (gAt D (cyT cy) (oL cy A aK qo X8) B) B) args s 2 12 B) (cW cy A aK ((qo, .inl (cy 5, 1, .inr (.inl f))) :: X8) σ) 0 0 0 [(0, .ref (A 0)), (1, .int a1), (2, .int a2), (3, .int a3), (4, .ref qo)] [] := by
    refine g_aload X dL_sortPart_0 4 rfl ?_
    refine g_iconst X dL_sortPart_2 (v := (0 : Int32)) (by decide) ?_
    refine g_aload_n X dL_sortPart_3 rfl 0 rfl ?_
    refine g_iload_n X dL_sortPart_4 rfl 1 rfl ?_
    refine g_iload_n X dL_sortPart_5 rfl 2 rfl ?_
    refine g_iload_n X dL_sortPart_6 rfl 3 rfl ?_
    refine g_xVI_ret (AD := A) (As := [.int a1, .int a2, .int a3]) X (ZL_ok _ _ _ _ _) (xI_up (m_X10_sortPart hl h)) (cwV 3 X.1.2.2.2.2 gL_sortPart_X10_sortPart rfl rfl rfl (by decide +kernel) ⟨Nat.le_of_ble_eq_true rfl, Nat.le_of_ble_eq_true rfl⟩) rfl cm0 (cE_0 cy A aK σ) rfl rfl (Nat.le_of_ble_eq_true rfl) ⟨by decide, by decide⟩ dL_sortPart_7 (k' := 2) (n' := 12) (by decide) (by decide) ?_
    refine g_i2l X dL_sortPart_10 ?_
    refine g_last X 85 5 (cW_85 _ _ _ _ _) rfl (vp_in_nI (n := 0) (N := 1) (by decide) (by decide)) dL_sortPart_11 (cW_s85 _ _ _ _ _ _) ?_
    refine g_goto X (tgt := 23) dL_sortPart_12 (by decide) ?_
    refine g_iconst X dL_sortPart_23 (v := (0 : Int32)) (by decide) ?_
    exact g_iret (Wf := (oL cy A aK qo X8)) (u := (σ', (vp_updL f 0 v.toInt64))) X ⟨rfl, rfl⟩ dL_sortPart_24
  exact K0
set_option maxHeartbeats 8000000 in
set_option maxRecDepth 100000 in
theorem w_sortPart_x1 {f : Nat → Int64} {σ σ' : St} {a1 : Int32} {a2 : Int32} {a3 : Int32} (hl : l.stackTraces = false) (h : f_X10_sortPart a1 a2 a3 σ = some (.inl "java/lang/IndexOutOfBoundsException", σ')) : wI (ZL aK aO aS aV aT) D (cyT cy) l yL_sortPart wsL_sortPart ({ frames := 8, cells := 2, slots := 12, locals := 176 } : Room) (oL cy A aK qo X8) [.ref (A 0), .int a1, .int a2, .int a3, .ref qo] (σ, f) 1 (σ', f) 2 12 := by
  refine wI_of (cc := cL_sortPart) (maxL := 6) (ret := (some .int)) (hh := [(0, 12, 15, 19), (0, 12, 19, 32)]) (by decide) rfl (Nat.le_of_ble_eq_true rfl) (fun p e s m args below meth c B X hx => ?_)
  have K0 : gG p l e ({ frames := 8, cells := 2, slots := 12, locals := 176 } : Room) s m args below meth c D (cyT cy) B 6 (MQ below (va_Qi (fun (r' : Int32) (u : St × (Nat → Int64)) => r' = 1 ∧ u = (σ', f)) (gAt D (cyT cy) (oL cy A aK qo X8) B) B) args s 2 12 B) (cW cy A aK ((qo, .inl (cy 5, 1, .inr (.inl f))) :: X8) σ) 0 0 0 [(0, .ref (A 0)), (1, .int a1), (2, .int a2), (3, .int a3), (4, .ref qo)] [] := by
    refine g_aload X dL_sortPart_0 4 rfl ?_
    refine g_iconst X dL_sortPart_2 (v := (0 : Int32)) (by decide) ?_
    refine g_aload_n X dL_sortPart_3 rfl 0 rfl ?_
    refine g_iload_n X dL_sortPart_4 rfl 1 rfl ?_
    refine g_iload_n X dL_sortPart_5 rfl 2 rfl ?_
    refine g_iload_n X dL_sortPart_6 rfl 3 rfl ?_
    refine g_xVI_cat (AD := A) (As := [.int a1, .int a2, .int a3]) (E0 := "java/lang/IndexOutOfBoundsException") (name := "java/lang/IndexOutOfBoundsException") X (ZL_ok _ _ _ _ _) (xI_up (m_X10_sortPart hl h)) (cwV 3 X.1.2.2.2.2 gL_sortPart_X10_sortPart rfl rfl rfl (by decide +kernel) ⟨Nat.le_of_ble_eq_true rfl, Nat.le_of_ble_eq_true rfl⟩) rfl cm0 (cE_0 cy A aK σ) rfl rfl (Nat.le_of_ble_eq_true rfl) ⟨by decide, by decide⟩ dL_sortPart_7 (k' := 2) (n' := 12) (by decide) (by decide) [] ⟨0, 12, 15, 19⟩ [⟨0, 12, 19, 32⟩] (by rw [hx]; rfl) (fun z hz => (nomatch hz)) (by decide) (by decide) (X.1.2.2.2.2 _ (by decide +kernel)) (va_Nw.use rfl (X.2.2.2.1.1.1.2.2.2.2.1 _ (by decide))) (fun q9 => ?_)
    refine g_astore X dL_sortPart_15 (by decide) rfl ?_
    refine g_iconst X dL_sortPart_17 (v := (1 : Int32)) (by decide) ?_
    exact g_iret (Wf := (oL cy A aK qo X8)) (u := (σ', f)) X ⟨rfl, rfl⟩ dL_sortPart_18
  exact K0
set_option maxHeartbeats 8000000 in
set_option maxRecDepth 100000 in
theorem w_sortPart_x2 {f : Nat → Int64} {σ σ' : St} {a1 : Int32} {a2 : Int32} {a3 : Int32} (hl : l.stackTraces = false) (h : f_X10_sortPart a1 a2 a3 σ = some (.inl "java/lang/IllegalArgumentException", σ')) : wI (ZL aK aO aS aV aT) D (cyT cy) l yL_sortPart wsL_sortPart ({ frames := 8, cells := 2, slots := 12, locals := 176 } : Room) (oL cy A aK qo X8) [.ref (A 0), .int a1, .int a2, .int a3, .ref qo] (σ, f) 2 (σ', f) 2 12 := by
  refine wI_of (cc := cL_sortPart) (maxL := 6) (ret := (some .int)) (hh := [(0, 12, 15, 19), (0, 12, 19, 32)]) (by decide) rfl (Nat.le_of_ble_eq_true rfl) (fun p e s m args below meth c B X hx => ?_)
  have K0 : gG p l e ({ frames := 8, cells := 2, slots := 12, locals := 176 } : Room) s m args below meth c D (cyT cy) B 6 (MQ below (va_Qi (fun (r' : Int32) (u : St × (Nat → Int64)) => r' = 2 ∧ u = (σ', f)) (gAt D (cyT cy) (oL cy A aK qo X8) B) B) args s 2 12 B) (cW cy A aK ((qo, .inl (cy 5, 1, .inr (.inl f))) :: X8) σ) 0 0 0 [(0, .ref (A 0)), (1, .int a1), (2, .int a2), (3, .int a3), (4, .ref qo)] [] := by
    refine g_aload X dL_sortPart_0 4 rfl ?_
    refine g_iconst X dL_sortPart_2 (v := (0 : Int32)) (by decide) ?_
    refine g_aload_n X dL_sortPart_3 rfl 0 rfl ?_
    refine g_iload_n X dL_sortPart_4 rfl 1 rfl ?_
    refine g_iload_n X dL_sortPart_5 rfl 2 rfl ?_
    refine g_iload_n X dL_sortPart_6 rfl 3 rfl ?_
    refine g_xVI_cat (AD := A) (As := [.int a1, .int a2, .int a3]) (E0 := "java/lang/IllegalArgumentException") (name := "java/lang/IllegalArgumentException") X (ZL_ok _ _ _ _ _) (xI_up (m_X10_sortPart hl h)) (cwV 3 X.1.2.2.2.2 gL_sortPart_X10_sortPart rfl rfl rfl (by decide +kernel) ⟨Nat.le_of_ble_eq_true rfl, Nat.le_of_ble_eq_true rfl⟩) rfl cm0 (cE_0 cy A aK σ) rfl rfl (Nat.le_of_ble_eq_true rfl) ⟨by decide, by decide⟩ dL_sortPart_7 (k' := 2) (n' := 12) (by decide) (by decide) [⟨0, 12, 15, 19⟩] ⟨0, 12, 19, 32⟩ [] (by rw [hx]; rfl) (fun z hz => by
      simp only [List.mem_cons, List.not_mem_nil, or_false] at hz
      rcases hz with rfl
      · exact Or.inr ⟨by decide, "java/lang/IndexOutOfBoundsException", X.1.2.2.2.2 _ (by decide +kernel), X.2.2.2.1.2 "java/lang/IllegalArgumentException" (by decide) "java/lang/IndexOutOfBoundsException" (by decide) (by decide)⟩) (by decide) (by decide) (X.1.2.2.2.2 _ (by decide +kernel)) (va_Nw.use rfl (X.2.2.2.1.1.1.2.2.2.2.1 _ (by decide))) (fun q9 => ?_)
    refine g_astore X dL_sortPart_19 (by decide) rfl ?_
    refine g_iconst X dL_sortPart_21 (v := (2 : Int32)) (by decide) ?_
    exact g_iret (Wf := (oL cy A aK qo X8)) (u := (σ', f)) X ⟨rfl, rfl⟩ dL_sortPart_22
  exact K0
set_option maxHeartbeats 8000000 in
set_option maxRecDepth 100000 in
theorem w_sortDown_ok {f : Nat → Int64} {σ σ' : St} {a1 : Int32} {a2 : Int32} {a3 : Int32} (hl : l.stackTraces = false) {v : Int32} (h : f_X10_sortDown a1 a2 a3 σ = some (.inr v, σ')) : wI (ZL aK aO aS aV aT) D (cyT cy) l yL_sortDown wsL_sortDown ({ frames := 8, cells := 3, slots := 18, locals := 176 } : Room) (oL cy A aK qo X8) [.ref (A 0), .int a1, .int a2, .int a3, .ref qo] (σ, f) 0 (σ', (vp_updL f 0 v.toInt64)) 3 18 := by
  refine wI_of (cc := cL_sortDown) (maxL := 6) (ret := (some .int)) (hh := [(0, 12, 15, 19), (0, 12, 19, 32)]) (by decide) rfl (Nat.le_of_ble_eq_true rfl) (fun p e s m args below meth c B X hx => ?_)
  have K0 : gG p l e ({ frames := 8, cells := 3, slots := 18, locals := 176 } : Room) s m args below meth c D (cyT cy) B 6 (MQ below (va_Qi (fun (r' : Int32) (u : St × (Nat → Int64)) => r' = 0 ∧ u = (σ', (vp_updL f 0 v.toInt64))) (gAt D (cyT cy) (oL cy A aK qo X8) B) B) args s 3 18 B) (cW cy A aK ((qo, .inl (cy 5, 1, .inr (.inl f))) :: X8) σ) 0 0 0 [(0, .ref (A 0)), (1, .int a1), (2, .int a2), (3, .int a3), (4, .ref qo)] [] := by
    refine g_aload X dL_sortDown_0 4 rfl ?_
    refine g_iconst X dL_sortDown_2 (v := (0 : Int32)) (by decide) ?_
    refine g_aload_n X dL_sortDown_3 rfl 0 rfl ?_
    refine g_iload_n X dL_sortDown_4 rfl 1 rfl ?_
    refine g_iload_n X dL_sortDown_5 rfl 2 rfl ?_
    refine g_iload_n X dL_sortDown_6 rfl 3 rfl ?_
    refine g_xVI_ret (AD := A) (As := [.int a1, .int a2, .int a3]) X (ZL_ok _ _ _ _ _) (xI_up (m_X10_sortDown hl h)) (cwV 3 X.1.2.2.2.2 gL_sortDown_X10_sortDown rfl rfl rfl (by decide +kernel) ⟨Nat.le_of_ble_eq_true rfl, Nat.le_of_ble_eq_true rfl⟩) rfl cm0 (cE_0 cy A aK σ) rfl rfl (Nat.le_of_ble_eq_true rfl) ⟨by decide, by decide⟩ dL_sortDown_7 (k' := 3) (n' := 18) (by decide) (by decide) ?_
    refine g_i2l X dL_sortDown_10 ?_
    refine g_last X 85 5 (cW_85 _ _ _ _ _) rfl (vp_in_nI (n := 0) (N := 1) (by decide) (by decide)) dL_sortDown_11 (cW_s85 _ _ _ _ _ _) ?_
    refine g_goto X (tgt := 23) dL_sortDown_12 (by decide) ?_
    refine g_iconst X dL_sortDown_23 (v := (0 : Int32)) (by decide) ?_
    exact g_iret (Wf := (oL cy A aK qo X8)) (u := (σ', (vp_updL f 0 v.toInt64))) X ⟨rfl, rfl⟩ dL_sortDown_24
  exact K0
set_option maxHeartbeats 8000000 in
set_option maxRecDepth 100000 in
theorem w_sortDown_x1 {f : Nat → Int64} {σ σ' : St} {a1 : Int32} {a2 : Int32} {a3 : Int32} (hl : l.stackTraces = false) (h : f_X10_sortDown a1 a2 a3 σ = some (.inl "java/lang/IndexOutOfBoundsException", σ')) : wI (ZL aK aO aS aV aT) D (cyT cy) l yL_sortDown wsL_sortDown ({ frames := 8, cells := 3, slots := 18, locals := 176 } : Room) (oL cy A aK qo X8) [.ref (A 0), .int a1, .int a2, .int a3, .ref qo] (σ, f) 1 (σ', f) 3 18 := by
  refine wI_of (cc := cL_sortDown) (maxL := 6) (ret := (some .int)) (hh := [(0, 12, 15, 19), (0, 12, 19, 32)]) (by decide) rfl (Nat.le_of_ble_eq_true rfl) (fun p e s m args below meth c B X hx => ?_)
  have K0 : gG p l e ({ frames := 8, cells := 3, slots := 18, locals := 176 } : Room) s m args below meth c D (cyT cy) B 6 (MQ below (va_Qi (fun (r' : Int32) (u : St × (Nat → Int64)) => r' = 1 ∧ u = (σ', f)) (gAt D (cyT cy) (oL cy A aK qo X8) B) B) args s 3 18 B) (cW cy A aK ((qo, .inl (cy 5, 1, .inr (.inl f))) :: X8) σ) 0 0 0 [(0, .ref (A 0)), (1, .int a1), (2, .int a2), (3, .int a3), (4, .ref qo)] [] := by
    refine g_aload X dL_sortDown_0 4 rfl ?_
    refine g_iconst X dL_sortDown_2 (v := (0 : Int32)) (by decide) ?_
    refine g_aload_n X dL_sortDown_3 rfl 0 rfl ?_
    refine g_iload_n X dL_sortDown_4 rfl 1 rfl ?_
    refine g_iload_n X dL_sortDown_5 rfl 2 rfl ?_
    refine g_iload_n X dL_sortDown_6 rfl 3 rfl ?_
    refine g_xVI_cat (AD := A) (As := [.int a1, .int a2, .int a3]) (E0 := "java/lang/IndexOutOfBoundsException") (name := "java/lang/IndexOutOfBoundsException") X (ZL_ok _ _ _ _ _) (xI_up (m_X10_sortDown hl h)) (cwV 3 X.1.2.2.2.2 gL_sortDown_X10_sortDown rfl rfl rfl (by decide +kernel) ⟨Nat.le_of_ble_eq_true rfl, Nat.le_of_ble_eq_true rfl⟩) rfl cm0 (cE_0 cy A aK σ) rfl rfl (Nat.le_of_ble_eq_true rfl) ⟨by decide, by decide⟩ dL_sortDown_7 (k' := 3) (n' := 18) (by decide) (by decide) [] ⟨0, 12, 15, 19⟩ [⟨0, 12, 19, 32⟩] (by rw [hx]; rfl) (fun z hz => (nomatch hz)) (by decide) (by decide) (X.1.2.2.2.2 _ (by decide +kernel)) (va_Nw.use rfl (X.2.2.2.1.1.1.2.2.2.2.1 _ (by decide))) (fun q9 => ?_)
    refine g_astore X dL_sortDown_15 (by decide) rfl ?_
    refine g_iconst X dL_sortDown_17 (v := (1 : Int32)) (by decide) ?_
    exact g_iret (Wf := (oL cy A aK qo X8)) (u := (σ', f)) X ⟨rfl, rfl⟩ dL_sortDown_18
  exact K0
set_option maxHeartbeats 8000000 in
set_option maxRecDepth 100000 in
theorem w_sortDown_x2 {f : Nat → Int64} {σ σ' : St} {a1 : Int32} {a2 : Int32} {a3 : Int32} (hl : l.stackTraces = false) (h : f_X10_sortDown a1 a2 a3 σ = some (.inl "java/lang/IllegalArgumentException", σ')) : wI (ZL aK aO aS aV aT) D (cyT cy) l yL_sortDown wsL_sortDown ({ frames := 8, cells := 3, slots := 18, locals := 176 } : Room) (oL cy A aK qo X8) [.ref (A 0), .int a1, .int a2, .int a3, .ref qo] (σ, f) 2 (σ', f) 3 18 := by
  refine wI_of (cc := cL_sortDown) (maxL := 6) (ret := (some .int)) (hh := [(0, 12, 15, 19), (0, 12, 19, 32)]) (by decide) rfl (Nat.le_of_ble_eq_true rfl) (fun p e s m args below meth c B X hx => ?_)
  have K0 : gG p l e ({ frames := 8, cells := 3, slots := 18, locals := 176 } : Room) s m args below meth c D (cyT cy) B 6 (MQ below (va_Qi (fun (r' : Int32) (u : St × (Nat → Int64)) => r' = 2 ∧ u = (σ', f)) (gAt D (cyT cy) (oL cy A aK qo X8) B) B) args s 3 18 B) (cW cy A aK ((qo, .inl (cy 5, 1, .inr (.inl f))) :: X8) σ) 0 0 0 [(0, .ref (A 0)), (1, .int a1), (2, .int a2), (3, .int a3), (4, .ref qo)] [] := by
    refine g_aload X dL_sortDown_0 4 rfl ?_
    refine g_iconst X dL_sortDown_2 (v := (0 : Int32)) (by decide) ?_
    refine g_aload_n X dL_sortDown_3 rfl 0 rfl ?_
    refine g_iload_n X dL_sortDown_4 rfl 1 rfl ?_
    refine g_iload_n X dL_sortDown_5 rfl 2 rfl ?_
    refine g_iload_n X dL_sortDown_6 rfl 3 rfl ?_
    refine g_xVI_cat (AD := A) (As := [.int a1, .int a2, .int a3]) (E0 := "java/lang/IllegalArgumentException") (name := "java/lang/IllegalArgumentException") X (ZL_ok _ _ _ _ _) (xI_up (m_X10_sortDown hl h)) (cwV 3 X.1.2.2.2.2 gL_sortDown_X10_sortDown rfl rfl rfl (by decide +kernel) ⟨Nat.le_of_ble_eq_true rfl, Nat.le_of_ble_eq_true rfl⟩) rfl cm0 (cE_0 cy A aK σ) rfl rfl (Nat.le_of_ble_eq_true rfl) ⟨by decide, by decide⟩ dL_sortDown_7 (k' := 3) (n' := 18) (by decide) (by decide) [⟨0, 12, 15, 19⟩] ⟨0, 12, 19, 32⟩ [] (by rw [hx]; rfl) (fun z hz => by
      simp only [List.mem_cons, List.not_mem_nil, or_false] at hz
      rcases hz with rfl
      · exact Or.inr ⟨by decide, "java/lang/IndexOutOfBoundsException", X.1.2.2.2.2 _ (by decide +kernel), X.2.2.2.1.2 "java/lang/IllegalArgumentException" (by decide) "java/lang/IndexOutOfBoundsException" (by decide) (by decide)⟩) (by decide) (by decide) (X.1.2.2.2.2 _ (by decide +kernel)) (va_Nw.use rfl (X.2.2.2.1.1.1.2.2.2.2.1 _ (by decide))) (fun q9 => ?_)
    refine g_astore X dL_sortDown_19 (by decide) rfl ?_
    refine g_iconst X dL_sortDown_21 (v := (2 : Int32)) (by decide) ?_
    exact g_iret (Wf := (oL cy A aK qo X8)) (u := (σ', f)) X ⟨rfl, rfl⟩ dL_sortDown_22
  exact K0
set_option maxHeartbeats 8000000 in
set_option maxRecDepth 100000 in
theorem w_sortBySecond_ok {f : Nat → Int64} {σ σ' : St} {a1 : Int32} (hl : l.stackTraces = false) {v : Int32} (h : f_X10_sortBySecond a1 σ = some (.inr v, σ')) : wI (ZL aK aO aS aV aT) D (cyT cy) l yL_sortBySecond wsL_sortBySecond ({ frames := 8, cells := 1, slots := 6, locals := 186 } : Room) (oL cy A aK qo X8) [.ref (A 0), .int a1, .ref qo] (σ, f) 0 (σ', (vp_updL f 0 v.toInt64)) 1 6 := by
  refine wI_of (cc := cL_sortBySecond) (maxL := 4) (ret := (some .int)) (hh := [(0, 9, 12, 19)]) (by decide) rfl (Nat.le_of_ble_eq_true rfl) (fun p e s m args below meth c B X hx => ?_)
  have K0 : gG p l e ({ frames := 8, cells := 1, slots := 6, locals := 186 } : Room) s m args below meth c D (cyT cy) B 4 (MQ below (va_Qi (fun (r' : Int32) (u : St × (Nat → Int64)) => r' = 0 ∧ u = (σ', (vp_updL f 0 v.toInt64))) (gAt D (cyT cy) (oL cy A aK qo X8) B) B) args s 1 6 B) (cW cy A aK ((qo, .inl (cy 5, 1, .inr (.inl f))) :: X8) σ) 0 0 0 [(0, .ref (A 0)), (1, .int a1), (2, .ref qo)] [] := by
    refine g_aload_n X dL_sortBySecond_0 rfl 2 rfl ?_
    refine g_iconst X dL_sortBySecond_1 (v := (0 : Int32)) (by decide) ?_
    refine g_aload_n X dL_sortBySecond_2 rfl 0 rfl ?_
    refine g_iload_n X dL_sortBySecond_3 rfl 1 rfl ?_
    refine g_xVI_ret (AD := A) (As := [.int a1]) X (ZL_ok _ _ _ _ _) (xI_up (m_X10_sortBySecond hl h)) (cwV 1 X.1.2.2.2.2 gL_sortBySecond_X10_sortBySecond rfl rfl rfl (by decide +kernel) ⟨Nat.le_of_ble_eq_true rfl, Nat.le_of_ble_eq_true rfl⟩) rfl cm0 (cE_0 cy A aK σ) rfl rfl (Nat.le_of_ble_eq_true rfl) ⟨by decide, by decide⟩ dL_sortBySecond_4 (k' := 1) (n' := 6) (by decide) (by decide) ?_
    refine g_i2l X dL_sortBySecond_7 ?_
    refine g_last X 85 5 (cW_85 _ _ _ _ _) rfl (vp_in_nI (n := 0) (N := 1) (by decide) (by decide)) dL_sortBySecond_8 (cW_s85 _ _ _ _ _ _) ?_
    refine g_goto X (tgt := 15) dL_sortBySecond_9 (by decide) ?_
    refine g_iconst X dL_sortBySecond_15 (v := (0 : Int32)) (by decide) ?_
    exact g_iret (Wf := (oL cy A aK qo X8)) (u := (σ', (vp_updL f 0 v.toInt64))) X ⟨rfl, rfl⟩ dL_sortBySecond_16
  exact K0
set_option maxHeartbeats 8000000 in
set_option maxRecDepth 100000 in
theorem w_sortBySecond_x1 {f : Nat → Int64} {σ σ' : St} {a1 : Int32} (hl : l.stackTraces = false) (h : f_X10_sortBySecond a1 σ = some (.inl "java/lang/IndexOutOfBoundsException", σ')) : wI (ZL aK aO aS aV aT) D (cyT cy) l yL_sortBySecond wsL_sortBySecond ({ frames := 8, cells := 1, slots := 6, locals := 186 } : Room) (oL cy A aK qo X8) [.ref (A 0), .int a1, .ref qo] (σ, f) 1 (σ', f) 1 6 := by
  refine wI_of (cc := cL_sortBySecond) (maxL := 4) (ret := (some .int)) (hh := [(0, 9, 12, 19)]) (by decide) rfl (Nat.le_of_ble_eq_true rfl) (fun p e s m args below meth c B X hx => ?_)
  have K0 : gG p l e ({ frames := 8, cells := 1, slots := 6, locals := 186 } : Room) s m args below meth c D (cyT cy) B 4 (MQ below (va_Qi (fun (r' : Int32) (u : St × (Nat → Int64)) => r' = 1 ∧ u = (σ', f)) (gAt D (cyT cy) (oL cy A aK qo X8) B) B) args s 1 6 B) (cW cy A aK ((qo, .inl (cy 5, 1, .inr (.inl f))) :: X8) σ) 0 0 0 [(0, .ref (A 0)), (1, .int a1), (2, .ref qo)] [] := by
    refine g_aload_n X dL_sortBySecond_0 rfl 2 rfl ?_
    refine g_iconst X dL_sortBySecond_1 (v := (0 : Int32)) (by decide) ?_
    refine g_aload_n X dL_sortBySecond_2 rfl 0 rfl ?_
    refine g_iload_n X dL_sortBySecond_3 rfl 1 rfl ?_
    refine g_xVI_cat (AD := A) (As := [.int a1]) (E0 := "java/lang/IndexOutOfBoundsException") (name := "java/lang/IndexOutOfBoundsException") X (ZL_ok _ _ _ _ _) (xI_up (m_X10_sortBySecond hl h)) (cwV 1 X.1.2.2.2.2 gL_sortBySecond_X10_sortBySecond rfl rfl rfl (by decide +kernel) ⟨Nat.le_of_ble_eq_true rfl, Nat.le_of_ble_eq_true rfl⟩) rfl cm0 (cE_0 cy A aK σ) rfl rfl (Nat.le_of_ble_eq_true rfl) ⟨by decide, by decide⟩ dL_sortBySecond_4 (k' := 1) (n' := 6) (by decide) (by decide) [] ⟨0, 9, 12, 19⟩ [] (by rw [hx]; rfl) (fun z hz => (nomatch hz)) (by decide) (by decide) (X.1.2.2.2.2 _ (by decide +kernel)) (va_Nw.use rfl (X.2.2.2.1.1.1.2.2.2.2.1 _ (by decide))) (fun q9 => ?_)
    refine g_astore_n X dL_sortBySecond_12 rfl (by decide) rfl ?_
    refine g_iconst X dL_sortBySecond_13 (v := (1 : Int32)) (by decide) ?_
    exact g_iret (Wf := (oL cy A aK qo X8)) (u := (σ', f)) X ⟨rfl, rfl⟩ dL_sortBySecond_14
  exact K0
set_option maxHeartbeats 8000000 in
set_option maxRecDepth 100000 in
theorem w_sortByBoth_ok {f : Nat → Int64} {σ σ' : St} {a1 : Int32} (hl : l.stackTraces = false) {v : Int32} (h : f_X10_sortByBoth a1 σ = some (.inr v, σ')) : wI (ZL aK aO aS aV aT) D (cyT cy) l yL_sortByBoth wsL_sortByBoth ({ frames := 8, cells := 1, slots := 6, locals := 186 } : Room) (oL cy A aK qo X8) [.ref (A 0), .int a1, .ref qo] (σ, f) 0 (σ', (vp_updL f 0 v.toInt64)) 1 6 := by
  refine wI_of (cc := cL_sortByBoth) (maxL := 4) (ret := (some .int)) (hh := [(0, 9, 12, 19)]) (by decide) rfl (Nat.le_of_ble_eq_true rfl) (fun p e s m args below meth c B X hx => ?_)
  have K0 : gG p l e ({ frames := 8, cells := 1, slots := 6, locals := 186 } : Room) s m args below meth c D (cyT cy) B 4 (MQ below (va_Qi (fun (r' : Int32) (u : St × (Nat → Int64)) => r' = 0 ∧ u = (σ', (vp_updL f 0 v.toInt64))) (gAt D (cyT cy) (oL cy A aK qo X8) B) B) args s 1 6 B) (cW cy A aK ((qo, .inl (cy 5, 1, .inr (.inl f))) :: X8) σ) 0 0 0 [(0, .ref (A 0)), (1, .int a1), (2, .ref qo)] [] := by
    refine g_aload_n X dL_sortByBoth_0 rfl 2 rfl ?_
    refine g_iconst X dL_sortByBoth_1 (v := (0 : Int32)) (by decide) ?_
    refine g_aload_n X dL_sortByBoth_2 rfl 0 rfl ?_
    refine g_iload_n X dL_sortByBoth_3 rfl 1 rfl ?_
    refine g_xVI_ret (AD := A) (As := [.int a1]) X (ZL_ok _ _ _ _ _) (xI_up (m_X10_sortByBoth hl h)) (cwV 1 X.1.2.2.2.2 gL_sortByBoth_X10_sortByBoth rfl rfl rfl (by decide +kernel) ⟨Nat.le_of_ble_eq_true rfl, Nat.le_of_ble_eq_true rfl⟩) rfl cm0 (cE_0 cy A aK σ) rfl rfl (Nat.le_of_ble_eq_true rfl) ⟨by decide, by decide⟩ dL_sortByBoth_4 (k' := 1) (n' := 6) (by decide) (by decide) ?_
    refine g_i2l X dL_sortByBoth_7 ?_
    refine g_last X 85 5 (cW_85 _ _ _ _ _) rfl (vp_in_nI (n := 0) (N := 1) (by decide) (by decide)) dL_sortByBoth_8 (cW_s85 _ _ _ _ _ _) ?_
    refine g_goto X (tgt := 15) dL_sortByBoth_9 (by decide) ?_
    refine g_iconst X dL_sortByBoth_15 (v := (0 : Int32)) (by decide) ?_
    exact g_iret (Wf := (oL cy A aK qo X8)) (u := (σ', (vp_updL f 0 v.toInt64))) X ⟨rfl, rfl⟩ dL_sortByBoth_16
  exact K0
set_option maxHeartbeats 8000000 in
set_option maxRecDepth 100000 in
theorem w_sortByBoth_x1 {f : Nat → Int64} {σ σ' : St} {a1 : Int32} (hl : l.stackTraces = false) (h : f_X10_sortByBoth a1 σ = some (.inl "java/lang/IndexOutOfBoundsException", σ')) : wI (ZL aK aO aS aV aT) D (cyT cy) l yL_sortByBoth wsL_sortByBoth ({ frames := 8, cells := 1, slots := 6, locals := 186 } : Room) (oL cy A aK qo X8) [.ref (A 0), .int a1, .ref qo] (σ, f) 1 (σ', f) 1 6 := by
  refine wI_of (cc := cL_sortByBoth) (maxL := 4) (ret := (some .int)) (hh := [(0, 9, 12, 19)]) (by decide) rfl (Nat.le_of_ble_eq_true rfl) (fun p e s m args below meth c B X hx => ?_)
  have K0 : gG p l e ({ frames := 8, cells := 1, slots := 6, locals := 186 } : Room) s m args below meth c D (cyT cy) B 4 (MQ below (va_Qi (fun (r' : Int32) (u : St × (Nat → Int64)) => r' = 1 ∧ u = (σ', f)) (gAt D (cyT cy) (oL cy A aK qo X8) B) B) args s 1 6 B) (cW cy A aK ((qo, .inl (cy 5, 1, .inr (.inl f))) :: X8) σ) 0 0 0 [(0, .ref (A 0)), (1, .int a1), (2, .ref qo)] [] := by
    refine g_aload_n X dL_sortByBoth_0 rfl 2 rfl ?_
    refine g_iconst X dL_sortByBoth_1 (v := (0 : Int32)) (by decide) ?_
    refine g_aload_n X dL_sortByBoth_2 rfl 0 rfl ?_
    refine g_iload_n X dL_sortByBoth_3 rfl 1 rfl ?_
    refine g_xVI_cat (AD := A) (As := [.int a1]) (E0 := "java/lang/IndexOutOfBoundsException") (name := "java/lang/IndexOutOfBoundsException") X (ZL_ok _ _ _ _ _) (xI_up (m_X10_sortByBoth hl h)) (cwV 1 X.1.2.2.2.2 gL_sortByBoth_X10_sortByBoth rfl rfl rfl (by decide +kernel) ⟨Nat.le_of_ble_eq_true rfl, Nat.le_of_ble_eq_true rfl⟩) rfl cm0 (cE_0 cy A aK σ) rfl rfl (Nat.le_of_ble_eq_true rfl) ⟨by decide, by decide⟩ dL_sortByBoth_4 (k' := 1) (n' := 6) (by decide) (by decide) [] ⟨0, 9, 12, 19⟩ [] (by rw [hx]; rfl) (fun z hz => (nomatch hz)) (by decide) (by decide) (X.1.2.2.2.2 _ (by decide +kernel)) (va_Nw.use rfl (X.2.2.2.1.1.1.2.2.2.2.1 _ (by decide))) (fun q9 => ?_)
    refine g_astore_n X dL_sortByBoth_12 rfl (by decide) rfl ?_
    refine g_iconst X dL_sortByBoth_13 (v := (1 : Int32)) (by decide) ?_
    exact g_iret (Wf := (oL cy A aK qo X8)) (u := (σ', f)) X ⟨rfl, rfl⟩ dL_sortByBoth_14
  exact K0
end WR
