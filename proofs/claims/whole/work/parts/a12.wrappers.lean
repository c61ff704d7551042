section WR
variable {cy : Nat → ClassId} {A aK aO aS aV aT : Nat → Nat} {D : va_G} {l : Launch} {qo qo9 : Nat} {e9 : va_E} {X8 : va_W}
set_option maxHeartbeats 8000000 in
set_option maxRecDepth 100000 in
theorem w_restore_ok {f : Nat → Int64} {σ σ' : St} {a1 : Int32} (hl : l.stackTraces = false) {v : Int32} (h : f_X10_restore a1 σ = some (.inr v, σ')) : wI (ZL aK aO aS aV aT) D (cyT cy) l yL_restore wsL_restore ({ frames := 8, cells := 2, slots := 12, locals := 173 } : Room) (oL cy A aK qo X8) [.ref (A 0), .int a1, .ref qo] (σ, f) 0 (σ', (vp_updL f 0 v.toInt64)) 2 12 := by
  refine wI_of (cc := cL_restore) (maxL := 4) (ret := (some .int)) (hh := [(0, 9, 12, 19), (0, 9, 15, 13)]) (by decide) rfl (Nat.le_of_ble_eq_true rfl) (fun p e s m args below meth c B X hx => ?_)
  have K0 : gG p l e ({ frames := 8, cells := 2, slots := 12, locals := 173 } : Room) s m args below meth c D (cyT cy) B 4 (MQ below (va_Qi (fun (r' : Int32) (u : St × (Nat → Int64)) => r' = 0 ∧ u = (σ', (vp_updL f 0 v.toInt64))) (gAt D (cyT cy) (oL cy A aK qo X8) B) B) args s 2 12 B) (cW cy A aK ((qo, .inl (cy 5, 1, .inr (.inl f))) :: X8) σ) 0 0 0 [(0, .ref (A 0)), (1, .int a1), (2, .ref qo)] [] := by
    refine g_aload_n X dL_restore_0 rfl 2 rfl ?_
    refine g_iconst X dL_restore_1 (v := (0 : Int32)) (by decide) ?_
    refine g_aload_n X dL_restore_2 rfl 0 rfl ?_
    refine g_iload_n X dL_restore_3 rfl 1 rfl ?_
    refine g_xVI_ret (AD := A) (As := [.int a1]) X (ZL_ok _ _ _ _ _) (xI_up (m_X10_restore hl h)) (cwV 1 X.1.2.2.2.2 gL_restore_X10_restore rfl rfl rfl (by decide +kernel) ⟨Nat.le_of_ble_eq_true rfl, Nat.le_of_ble_eq_true rfl⟩) rfl cm0 (cE_0 cy A aK σ) rfl rfl (Nat.le_of_ble_eq_true rfl) ⟨by decide, by decide⟩ dL_restore_4 (k' := 2) (n' := 12) (by decide) (by decide) ?_
    refine g_i2l X dL_restore_7 ?_
    refine g_last X 85 5 (cW_85 _ _ _ _ _) rfl (vp_in_nI (n := 0) (N := 1) (by decide) (by decide)) dL_restore_8 (cW_s85 _ _ _ _ _ _) ?_
    refine g_goto X (tgt := 18) dL_restore_9 (by decide) ?_
    refine g_iconst X dL_restore_18 (v := (0 : Int32)) (by decide) ?_
    exact g_iret (Wf := (oL cy A aK qo X8)) (u := (σ', (vp_updL f 0 v.toInt64))) X ⟨rfl, rfl⟩ dL_restore_19
  exact K0
set_option maxHeartbeats 8000000 in
set_option maxRecDepth 100000 in
theorem w_restore_x1 {f : Nat → Int64} {σ σ' : St} {a1 : Int32} (hl : l.stackTraces = false) (h : f_X10_restore a1 σ = some (.inl "java/lang/IndexOutOfBoundsException", σ')) : wI (ZL aK aO aS aV aT) D (cyT cy) l yL_restore wsL_restore ({ frames := 8, cells := 2, slots := 12, locals := 173 } : Room) (oL cy A aK qo X8) [.ref (A 0), .int a1, .ref qo] (σ, f) 1 (σ', f) 2 12 := by
  refine wI_of (cc := cL_restore) (maxL := 4) (ret := (some .int)) (hh := [(0, 9, 12, 19), (0, 9, 15, 13)]) (by decide) rfl (Nat.le_of_ble_eq_true rfl) (fun p e s m args below meth c B X hx => ?_)
  have K0 : gG p l e ({ frames := 8, cells := 2, slots := 12, locals := 173 } : Room) s m args below meth c D (cyT cy) B 4 (MQ below (va_Qi (fun (r' : Int32) (u : St × (Nat → Int64)) => r' = 1 ∧ u = (σ', f)) (gAt D (cyT cy) (oL cy A aK qo X8) B) B) args s 2 12 B) (cW cy A aK ((qo, .inl (cy 5, 1, .inr (.inl f))) :: X8) σ) 0 0 0 [(0, .ref (A 0)), (1, .int a1), (2, .ref qo)] [] := by
    refine g_aload_n X dL_restore_0 rfl 2 rfl ?_
    refine g_iconst X dL_restore_1 (v := (0 : Int32)) (by decide) ?_
    refine g_aload_n X dL_restore_2 rfl 0 rfl ?_
    refine g_iload_n X dL_restore_3 rfl 1 rfl ?_
    refine g_xVI_cat (AD := A) (As := [.int a1]) (E0 := "java/lang/IndexOutOfBoundsException") (name := "java/lang/IndexOutOfBoundsException") X (ZL_ok _ _ _ _ _) (xI_up (m_X10_restore hl h)) (cwV 1 X.1.2.2.2.2 gL_restore_X10_restore rfl rfl rfl (by decide +kernel) ⟨Nat.le_of_ble_eq_true rfl, Nat.le_of_ble_eq_true rfl⟩) rfl cm0 (cE_0 cy A aK σ) rfl rfl (Nat.le_of_ble_eq_true rfl) ⟨by decide, by decide⟩ dL_restore_4 (k' := 2) (n' := 12) (by decide) (by decide) [] ⟨0, 9, 12, 19⟩ [⟨0, 9, 15, 13⟩] (by rw [hx]; rfl) (fun z hz => (nomatch hz)) (by decide) (by decide) (X.1.2.2.2.2 _ (by decide +kernel)) (va_Nw.use rfl (X.2.2.2.1.1.1.2.2.2.2.1 _ (by decide))) (fun q9 => ?_)
    refine g_astore_n X dL_restore_12 rfl (by decide) rfl ?_
    refine g_iconst X dL_restore_13 (v := (1 : Int32)) (by decide) ?_
    exact g_iret (Wf := (oL cy A aK qo X8)) (u := (σ', f)) X ⟨rfl, rfl⟩ dL_restore_14
  exact K0
set_option maxHeartbeats 8000000 in
set_option maxRecDepth 100000 in
theorem w_restore_x2 {f : Nat → Int64} {σ σ' : St} {a1 : Int32} (hl : l.stackTraces = false) (h : f_X10_restore a1 σ = some (.inl "java/lang/IllegalStateException", σ')) : wI (ZL aK aO aS aV aT) D (cyT cy) l yL_restore wsL_restore ({ frames := 8, cells := 2, slots := 12, locals := 173 } : Room) (oL cy A aK qo X8) [.ref (A 0), .int a1, .ref qo] (σ, f) 2 (σ', f) 2 12 := by
  refine wI_of (cc := cL_restore) (maxL := 4) (ret := (some .int)) (hh := [(0, 9, 12, 19), (0, 9, 15, 13)]) (by decide) rfl (Nat.le_of_ble_eq_true rfl) (fun p e s m args below meth c B X hx => ?_)
  have K0 : gG p l e ({ frames := 8, cells := 2, slots := 12, locals := 173 } : Room) s m args below meth c D (cyT cy) B 4 (MQ below (va_Qi (fun (r' : Int32) (u : St × (Nat → Int64)) => r' = 2 ∧ u = (σ', f)) (gAt D (cyT cy) (oL cy A aK qo X8) B) B) args s 2 12 B) (cW cy A aK ((qo, .inl (cy 5, 1, .inr (.inl f))) :: X8) σ) 0 0 0 [(0, .ref (A 0)), (1, .int a1), (2, .ref qo)] [] := by
    refine g_aload_n X dL_restore_0 rfl 2 rfl ?_
    refine g_iconst X dL_restore_1 (v := (0 : Int32)) (by decide) ?_
    refine g_aload_n X dL_restore_2 rfl 0 rfl ?_
    refine g_iload_n X dL_restore_3 rfl 1 rfl ?_
    refine g_xVI_cat (AD := A) (As := [.int a1]) (E0 := "java/lang/IllegalStateException") (name := "java/lang/IllegalStateException") X (ZL_ok _ _ _ _ _) (xI_up (m_X10_restore hl h)) (cwV 1 X.1.2.2.2.2 gL_restore_X10_restore rfl rfl rfl (by decide +kernel) ⟨Nat.le_of_ble_eq_true rfl, Nat.le_of_ble_eq_true rfl⟩) rfl cm0 (cE_0 cy A aK σ) rfl rfl (Nat.le_of_ble_eq_true rfl) ⟨by decide, by decide⟩ dL_restore_4 (k' := 2) (n' := 12) (by decide) (by decide) [⟨0, 9, 12, 19⟩] ⟨0, 9, 15, 13⟩ [] (by rw [hx]; rfl) (fun z hz => by
      simp only [List.mem_cons, List.not_mem_nil, or_false] at hz
      rcases hz with rfl
      · exact Or.inr ⟨by decide, "java/lang/IndexOutOfBoundsException", X.1.2.2.2.2 _ (by decide +kernel), X.2.2.2.1.2 "java/lang/IllegalStateException" (by decide) "java/lang/IndexOutOfBoundsException" (by decide) (by decide)⟩) (by decide) (by decide) (X.1.2.2.2.2 _ (by decide +kernel)) (va_Nw.use rfl (X.2.2.2.1.1.1.2.2.2.2.1 _ (by decide))) (fun q9 => ?_)
    refine g_astore_n X dL_restore_15 rfl (by decide) rfl ?_
    refine g_iconst X dL_restore_16 (v := (2 : Int32)) (by decide) ?_
    exact g_iret (Wf := (oL cy A aK qo X8)) (u := (σ', f)) X ⟨rfl, rfl⟩ dL_restore_17
  exact K0
set_option maxHeartbeats 8000000 in
set_option maxRecDepth 100000 in
theorem w_count_ok {f : Nat → Int64} {σ : St} {a1 : Int32} (hl : l.stackTraces = false) {v : Int32} (h : f_X10_count a1 σ = some (.inr v)) : wI (ZL aK aO aS aV aT) D (cyT cy) l yL_count wsL_count ({ frames := 8, cells := 1, slots := 6, locals := 172 } : Room) (oL cy A aK qo X8) [.ref (A 0), .int a1, .ref qo] (σ, f) 0 (σ, (vp_updL f 0 v.toInt64)) 1 6 := by
  refine wI_of (cc := cL_count) (maxL := 4) (ret := (some .int)) (hh := [(0, 9, 12, 19)]) (by decide) rfl (Nat.le_of_ble_eq_true rfl) (fun p e s m args below meth c B X hx => ?_)
  have K0 : gG p l e ({ frames := 8, cells := 1, slots := 6, locals := 172 } : Room) s m args below meth c D (cyT cy) B 4 (MQ below (va_Qi (fun (r' : Int32) (u : St × (Nat → Int64)) => r' = 0 ∧ u = (σ, (vp_updL f 0 v.toInt64))) (gAt D (cyT cy) (oL cy A aK qo X8) B) B) args s 1 6 B) (cW cy A aK ((qo, .inl (cy 5, 1, .inr (.inl f))) :: X8) σ) 0 0 0 [(0, .ref (A 0)), (1, .int a1), (2, .ref qo)] [] := by
    refine g_aload_n X dL_count_0 rfl 2 rfl ?_
    refine g_iconst X dL_count_1 (v := (0 : Int32)) (by decide) ?_
    refine g_aload_n X dL_count_2 rfl 0 rfl ?_
    refine g_iload_n X dL_count_3 rfl 1 rfl ?_
    refine g_xVI_ret (AD := A) (As := [.int a1]) X (ZL_ok _ _ _ _ _) (xI_up (m_X10_count hl h)) (cwV 1 X.1.2.2.2.2 gL_count_X10_count rfl rfl rfl (by decide +kernel) ⟨Nat.le_of_ble_eq_true rfl, Nat.le_of_ble_eq_true rfl⟩) rfl cm0 (cE_0 cy A aK σ) rfl rfl (Nat.le_of_ble_eq_true rfl) ⟨by decide, by decide⟩ dL_count_4 (k' := 1) (n' := 6) (by decide) (by decide) ?_
    refine g_i2l X dL_count_7 ?_
    refine g_last X 85 5 (cW_85 _ _ _ _ _) rfl (vp_in_nI (n := 0) (N := 1) (by decide) (by decide)) dL_count_8 (cW_s85 _ _ _ _ _ _) ?_
    refine g_goto X (tgt := 15) dL_count_9 (by decide) ?_
    refine g_iconst X dL_count_15 (v := (0 : Int32)) (by decide) ?_
    exact g_iret (Wf := (oL cy A aK qo X8)) (u := (σ, (vp_updL f 0 v.toInt64))) X ⟨rfl, rfl⟩ dL_count_16
  exact K0
set_option maxHeartbeats 8000000 in
set_option maxRecDepth 100000 in
theorem w_count_x1 {f : Nat → Int64} {σ : St} {a1 : Int32} (hl : l.stackTraces = false) (h : f_X10_count a1 σ = some (.inl "java/lang/IndexOutOfBoundsException")) : wI (ZL aK aO aS aV aT) D (cyT cy) l yL_count wsL_count ({ frames := 8, cells := 1, slots := 6, locals := 172 } : Room) (oL cy A aK qo X8) [.ref (A 0), .int a1, .ref qo] (σ, f) 1 (σ, f) 1 6 := by
  refine wI_of (cc := cL_count) (maxL := 4) (ret := (some .int)) (hh := [(0, 9, 12, 19)]) (by decide) rfl (Nat.le_of_ble_eq_true rfl) (fun p e s m args below meth c B X hx => ?_)
  have K0 : gG p l e ({ frames := 8, cells := 1, slots := 6, locals := 172 } : Room) s m args below meth c D (cyT cy) B 4 (MQ below (va_Qi (fun (r' : Int32) (u : St × (Nat → Int64)) => r' = 1 ∧ u = (σ, f)) (gAt D (cyT cy) (oL cy A aK qo X8) B) B) args s 1 6 B) (cW cy A aK ((qo, .inl (cy 5, 1, .inr (.inl f))) :: X8) σ) 0 0 0 [(0, .ref (A 0)), (1, .int a1), (2, .ref qo)] [] := by
    refine g_aload_n X dL_count_0 rfl 2 rfl ?_
    refine g_iconst X dL_count_1 (v := (0 : Int32)) (by decide) ?_
    refine g_aload_n X dL_count_2 rfl 0 rfl ?_
    refine g_iload_n X dL_count_3 rfl 1 rfl ?_
    refine g_xVI_cat (AD := A) (As := [.int a1]) (E0 := "java/lang/IndexOutOfBoundsException") (name := "java/lang/IndexOutOfBoundsException") X (ZL_ok _ _ _ _ _) (xI_up (m_X10_count hl h)) (cwV 1 X.1.2.2.2.2 gL_count_X10_count rfl rfl rfl (by decide +kernel) ⟨Nat.le_of_ble_eq_true rfl, Nat.le_of_ble_eq_true rfl⟩) rfl cm0 (cE_0 cy A aK σ) rfl rfl (Nat.le_of_ble_eq_true rfl) ⟨by decide, by decide⟩ dL_count_4 (k' := 1) (n' := 6) (by decide) (by decide) [] ⟨0, 9, 12, 19⟩ [] (by rw [hx]; rfl) (fun z hz => (nomatch hz)) (by decide) (by decide) (X.1.2.2.2.2 _ (by decide +kernel)) (va_Nw.use rfl (X.2.2.2.1.1.1.2.2.2.2.1 _ (by decide))) (fun q9 => ?_)
    refine g_astore_n X dL_count_12 rfl (by decide) rfl ?_
    refine g_iconst X dL_count_13 (v := (1 : Int32)) (by decide) ?_
    exact g_iret (Wf := (oL cy A aK qo X8)) (u := (σ, f)) X ⟨rfl, rfl⟩ dL_count_14
  exact K0
set_option maxHeartbeats 8000000 in
set_option maxRecDepth 100000 in
theorem w_cardAt_ok {f : Nat → Int64} {σ : St} {a1 : Int32} {a2 : Int32} {a3 : Int32} (hl : l.stackTraces = false) {v : Int32} (h : f_X10_cardAt a1 a2 a3 σ = some (.inr v)) : wI (ZL aK aO aS aV aT) D (cyT cy) l yL_cardAt wsL_cardAt ({ frames := 8, cells := 3, slots := 18, locals := 176 } : Room) (oL cy A aK qo X8) [.ref (A 0), .int a1, .int a2, .int a3, .ref qo] (σ, f) 0 (σ, (vp_updL f 0 v.toInt64)) 3 18 := by
  refine wI_of (cc := cL_cardAt) (maxL := 6) (ret := (some .int)) (hh := [(0, 12, 15, 19), (0, 12, 19, 32)]) (by decide) rfl (Nat.le_of_ble_eq_true rfl) (fun p e s m args below meth c B X hx => ?_)
  have K0 : gG p l e ({ frames := 8, cells := 3, slots := 18, locals := 176 } : Room) s m args below meth c D (cyT cy) B 6 (MQ below (va_Qi (fun (r' : Int32) (u : St × (Nat → Int64)) => r' = 0 ∧ u = (σ, (vp_updL f 0 v.toInt64))) (gAt D (cyT cy) (oL cy A aK qo X8) B) B) args s 3 18 B) (cW cy A aK ((qo, .inl (cy 5, 1, .inr (.inl f))) :: X8) σ) 0 0 0 [(0, .ref (A 0)), (1, .int a1), (2, .int a2), (3, .int a3), (4, .ref qo)] [] := by
    refine g_aload X dL_cardAt_0 4 rfl ?_
    refine g_iconst X dL_cardAt_2 (v := (0 : Int32)) (by decide) ?_
    refine g_aload_n X dL_cardAt_3 rfl 0 rfl ?_
    refine g_iload_n X dL_cardAt_4 rfl 1 rfl ?_
    refine g_iload_n X dL_cardAt_5 rfl 2 rfl ?_
    refine g_iload_n X dL_cardAt_6 rfl 3 rfl ?_
    refine g_xVI_ret (AD := A) (As := [.int a1, .int a2, .int a3]) X (ZL_ok _ _ _ _ _) (xI_up (m_X10_cardAt hl h)) (cwV 3 X.1.2.2.2.2 gL_cardAt_X10_cardAt rfl rfl rfl (by decide +kernel) ⟨Nat.le_of_ble_eq_true rfl, Nat.le_of_ble_eq_true rfl⟩) rfl cm0 (cE_0 cy A aK σ) rfl rfl (Nat.le_of_ble_eq_true rfl) ⟨by decide, by decide⟩ dL_cardAt_7 (k' := 3) (n' := 18) (by decide) (by decide) ?_
    refine g_i2l X dL_cardAt_10 ?_
    refine g_last X 85 5 (cW_85 _ _ _ _ _) rfl (vp_in_nI (n := 0) (N := 1) (by decide) (by decide)) dL_cardAt_11 (cW_s85 _ _ _ _ _ _) ?_
    refine g_goto X (tgt := 23) dL_cardAt_12 (by decide) ?_
    refine g_iconst X dL_cardAt_23 (v := (0 : Int32)) (by decide) ?_
    exact g_iret (Wf := (oL cy A aK qo X8)) (u := (σ, (vp_updL f 0 v.toInt64))) X ⟨rfl, rfl⟩ dL_cardAt_24
  exact K0
set_option maxHeartbeats 8000000 in
set_option maxRecDepth 100000 in
theorem w_cardAt_x1 {f : Nat → Int64} {σ : St} {a1 : Int32} {a2 : Int32} {a3 : Int32} (hl : l.stackTraces = false) (h : f_X10_cardAt a1 a2 a3 σ = some (.inl "java/lang/IndexOutOfBoundsException")) : wI (ZL aK aO aS aV aT) D (cyT cy) l yL_cardAt wsL_cardAt ({ frames := 8, cells := 3, slots := 18, locals := 176 } : Room) (oL cy A aK qo X8) [.ref (A 0), .int a1, .int a2, .int a3, .ref qo] (σ, f) 1 (σ, f) 3 18 := by
  refine wI_of (cc := cL_cardAt) (maxL := 6) (ret := (some .int)) (hh := [(0, 12, 15, 19), (0, 12, 19, 32)]) (by decide) rfl (Nat.le_of_ble_eq_true rfl) (fun p e s m args below meth c B X hx => ?_)
  have K0 : gG p l e ({ frames := 8, cells := 3, slots := 18, locals := 176 } : Room) s m args below meth c D (cyT cy) B 6 (MQ below (va_Qi (fun (r' : Int32) (u : St × (Nat → Int64)) => r' = 1 ∧ u = (σ, f)) (gAt D (cyT cy) (oL cy A aK qo X8) B) B) args s 3 18 B) (cW cy A aK ((qo, .inl (cy 5, 1, .inr (.inl f))) :: X8) σ) 0 0 0 [(0, .ref (A 0)), (1, .int a1), (2, .int a2), (3, .int a3), (4, .ref qo)] [] := by
    refine g_aload X dL_cardAt_0 4 rfl ?_
    refine g_iconst X dL_cardAt_2 (v := (0 : Int32)) (by decide) ?_
    refine g_aload_n X dL_cardAt_3 rfl 0 rfl ?_
    refine g_iload_n X dL_cardAt_4 rfl 1 rfl ?_
    refine g_iload_n X dL_cardAt_5 rfl 2 rfl ?_
    refine g_iload_n X dL_cardAt_6 rfl 3 rfl ?_
    refine g_xVI_cat (AD := A) (As := [.int a1, .int a2, .int a3]) (E0 := "java/lang/IndexOutOfBoundsException") (name := "java/lang/IndexOutOfBoundsException") X (ZL_ok _ _ _ _ _) (xI_up (m_X10_cardAt hl h)) (cwV 3 X.1.2.2.2.2 gL_cardAt_X10_cardAt rfl rfl rfl (by decide +kernel) ⟨Nat.le_of_ble_eq_true rfl, Nat.le_of_ble_eq_true rfl⟩) rfl cm0 (cE_0 cy A aK σ) rfl rfl (Nat.le_of_ble_eq_true rfl) ⟨by decide, by decide⟩ dL_cardAt_7 (k' := 3) (n' := 18) (by decide) (by decide) [] ⟨0, 12, 15, 19⟩ [⟨0, 12, 19, 32⟩] (by rw [hx]; rfl) (fun z hz => (nomatch hz)) (by decide) (by decide) (X.1.2.2.2.2 _ (by decide +kernel)) (va_Nw.use rfl (X.2.2.2.1.1.1.2.2.2.2.1 _ (by decide))) (fun q9 => ?_)
    refine g_astore X dL_cardAt_15 (by decide) rfl ?_
    refine g_iconst X dL_cardAt_17 (v := (1 : Int32)) (by decide) ?_
    exact g_iret (Wf := (oL cy A aK qo X8)) (u := (σ, f)) X ⟨rfl, rfl⟩ dL_cardAt_18
  exact K0
set_option maxHeartbeats 8000000 in
set_option maxRecDepth 100000 in
theorem w_cardAt_x2 {f : Nat → Int64} {σ : St} {a1 : Int32} {a2 : Int32} {a3 : Int32} (hl : l.stackTraces = false) (h : f_X10_cardAt a1 a2 a3 σ = some (.inl "java/lang/IllegalArgumentException")) : wI (ZL aK aO aS aV aT) D (cyT cy) l yL_cardAt wsL_cardAt ({ frames := 8, cells := 3, slots := 18, locals := 176 } : Room) (oL cy A aK qo X8) [.ref (A 0), .int a1, .int a2, .int a3, .ref qo] (σ, f) 2 (σ, f) 3 18 := by
  refine wI_of (cc := cL_cardAt) (maxL := 6) (ret := (some .int)) (hh := [(0, 12, 15, 19), (0, 12, 19, 32)]) (by decide) rfl (Nat.le_of_ble_eq_true rfl) (fun p e s m args below meth c B X hx => ?_)
  have K0 : gG p l e ({ frames := 8, cells := 3, slots := 18, locals := 176 } : Room) s m args below meth c D (cyT cy) B 6 (MQ below (va_Qi (fun (r' : Int32) (u : St × (Nat → Int64)) => r' = 2 ∧ u = (σ, f)) (gAt D (cyT cy) (oL cy A aK qo X8) B) B) args s 3 18 B) (cW cy A aK ((qo, .inl (cy 5, 1, .inr (.inl f))) :: X8) σ) 0 0 0 [(0, .ref (A 0)), (1, .int a1), (2, .int a2), (3, .int a3), (4, .ref qo)] [] := by
    refine g_aload X dL_cardAt_0 4 rfl ?_
    refine g_iconst X dL_cardAt_2 (v := (0 : Int32)) (by decide) ?_
    refine g_aload_n X dL_cardAt_3 rfl 0 rfl ?_
    refine g_iload_n X dL_cardAt_4 rfl 1 rfl ?_
    refine g_iload_n X dL_cardAt_5 rfl 2 rfl ?_
    refine g_iload_n X dL_cardAt_6 rfl 3 rfl ?_
    refine g_xVI_cat (AD := A) (As := [.int a1, .int a2, .int a3]) (E0 := "java/lang/IllegalArgumentException") (name := "java/lang/IllegalArgumentException") X (ZL_ok _ _ _ _ _) (xI_up (m_X10_cardAt hl h)) (cwV 3 X.1.2.2.2.2 gL_cardAt_X10_cardAt rfl rfl rfl (by decide +kernel) ⟨Nat.le_of_ble_eq_true rfl, Nat.le_of_ble_eq_true rfl⟩) rfl cm0 (cE_0 cy A aK σ) rfl rfl (Nat.le_of_ble_eq_true rfl) ⟨by decide, by decide⟩ dL_cardAt_7 (k' := 3) (n' := 18) (by decide) (by decide) [⟨0, 12, 15, 19⟩] ⟨0, 12, 19, 32⟩ [] (by rw [hx]; rfl) (fun z hz => by
      simp only [List.mem_cons, List.not_mem_nil, or_false] at hz
      rcases hz with rfl
      · exact Or.inr ⟨by decide, "java/lang/IndexOutOfBoundsException", X.1.2.2.2.2 _ (by decide +kernel), X.2.2.2.1.2 "java/lang/IllegalArgumentException" (by decide) "java/lang/IndexOutOfBoundsException" (by decide) (by decide)⟩) (by decide) (by decide) (X.1.2.2.2.2 _ (by decide +kernel)) (va_Nw.use rfl (X.2.2.2.1.1.1.2.2.2.2.1 _ (by decide))) (fun q9 => ?_)
    refine g_astore X dL_cardAt_19 (by decide) rfl ?_
    refine g_iconst X dL_cardAt_21 (v := (2 : Int32)) (by decide) ?_
    exact g_iret (Wf := (oL cy A aK qo X8)) (u := (σ, f)) X ⟨rfl, rfl⟩ dL_cardAt_22
  exact K0
set_option maxHeartbeats 8000000 in
set_option maxRecDepth 100000 in
theorem w_placeOf_ok {f : Nat → Int64} {σ : St} {a1 : Int32} {a2 : Int32} (hl : l.stackTraces = false) {v : Int32} (h : f_X10_placeOf a1 a2 σ = some (.inr v)) : wI (ZL aK aO aS aV aT) D (cyT cy) l yL_placeOf wsL_placeOf ({ frames := 8, cells := 1, slots := 6, locals := 175 } : Room) (oL cy A aK qo X8) [.ref (A 0), .int a1, .int a2, .ref qo] (σ, f) 0 (σ, (vp_updL f 0 v.toInt64)) 1 6 := by
  refine wI_of (cc := cL_placeOf) (maxL := 5) (ret := (some .int)) (hh := [(0, 10, 13, 19)]) (by decide) rfl (Nat.le_of_ble_eq_true rfl) (fun p e s m args below meth c B X hx => ?_)
  have K0 : gG p l e ({ frames := 8, cells := 1, slots := 6, locals := 175 } : Room) s m args below meth c D (cyT cy) B 5 (MQ below (va_Qi (fun (r' : Int32) (u : St × (Nat → Int64)) => r' = 0 ∧ u = (σ, (vp_updL f 0 v.toInt64))) (gAt D (cyT cy) (oL cy A aK qo X8) B) B) args s 1 6 B) (cW cy A aK ((qo, .inl (cy 5, 1, .inr (.inl f))) :: X8) σ) 0 0 0 [(0, .ref (A 0)), (1, .int a1), (2, .int a2), (3, .ref qo)] [] := by
    refine g_aload_n X dL_placeOf_0 rfl 3 rfl ?_
    refine g_iconst X dL_placeOf_1 (v := (0 : Int32)) (by decide) ?_
    refine g_aload_n X dL_placeOf_2 rfl 0 rfl ?_
    refine g_iload_n X dL_placeOf_3 rfl 1 rfl ?_
    refine g_iload_n X dL_placeOf_4 rfl 2 rfl ?_
    refine g_xVI_ret (AD := A) (As := [.int a1, .int a2]) X (ZL_ok _ _ _ _ _) (xI_up (m_X10_placeOf hl h)) (cwV 2 X.1.2.2.2.2 gL_placeOf_X10_placeOf rfl rfl rfl (by decide +kernel) ⟨Nat.le_of_ble_eq_true rfl, Nat.le_of_ble_eq_true rfl⟩) rfl cm0 (cE_0 cy A aK σ) rfl rfl (Nat.le_of_ble_eq_true rfl) ⟨by decide, by decide⟩ dL_placeOf_5 (k' := 1) (n' := 6) (by decide) (by decide) ?_
    refine g_i2l X dL_placeOf_8 ?_
    refine g_last X 85 5 (cW_85 _ _ _ _ _) rfl (vp_in_nI (n := 0) (N := 1) (by decide) (by decide)) dL_placeOf_9 (cW_s85 _ _ _ _ _ _) ?_
    refine g_goto X (tgt := 17) dL_placeOf_10 (by decide) ?_
    refine g_iconst X dL_placeOf_17 (v := (0 : Int32)) (by decide) ?_
    exact g_iret (Wf := (oL cy A aK qo X8)) (u := (σ, (vp_updL f 0 v.toInt64))) X ⟨rfl, rfl⟩ dL_placeOf_18
  exact K0
set_option maxHeartbeats 8000000 in
set_option maxRecDepth 100000 in
theorem w_placeOf_x1 {f : Nat → Int64} {σ : St} {a1 : Int32} {a2 : Int32} (hl : l.stackTraces = false) (h : f_X10_placeOf a1 a2 σ = some (.inl "java/lang/IndexOutOfBoundsException")) : wI (ZL aK aO aS aV aT) D (cyT cy) l yL_placeOf wsL_placeOf ({ frames := 8, cells := 1, slots := 6, locals := 175 } : Room) (oL cy A aK qo X8) [.ref (A 0), .int a1, .int a2, .ref qo] (σ, f) 1 (σ, f) 1 6 := by
  refine wI_of (cc := cL_placeOf) (maxL := 5) (ret := (some .int)) (hh := [(0, 10, 13, 19)]) (by decide) rfl (Nat.le_of_ble_eq_true rfl) (fun p e s m args below meth c B X hx => ?_)
  have K0 : gG p l e ({ frames := 8, cells := 1, slots := 6, locals := 175 } : Room) s m args below meth c D (cyT cy) B 5 (MQ below (va_Qi (fun (r' : Int32) (u : St × (Nat → Int64)) => r' = 1 ∧ u = (σ, f)) (gAt D (cyT cy) (oL cy A aK qo X8) B) B) args s 1 6 B) (cW cy A aK ((qo, .inl (cy 5, 1, .inr (.inl f))) :: X8) σ) 0 0 0 [(0, .ref (A 0)), (1, .int a1), (2, .int a2), (3, .ref qo)] [] := by
    refine g_aload_n X dL_placeOf_0 rfl 3 rfl ?_
    refine g_iconst X dL_placeOf_1 (v := (0 : Int32)) (by decide) ?_
    refine g_aload_n X dL_placeOf_2 rfl 0 rfl ?_
    refine g_iload_n X dL_placeOf_3 rfl 1 rfl ?_
    refine g_iload_n X dL_placeOf_4 rfl 2 rfl ?_
    refine g_xVI_cat (AD := A) (As := [.int a1, .int a2]) (E0 := "java/lang/IndexOutOfBoundsException") (name := "java/lang/IndexOutOfBoundsException") X (ZL_ok _ _ _ _ _) (xI_up (m_X10_placeOf hl h)) (cwV 2 X.1.2.2.2.2 gL_placeOf_X10_placeOf rfl rfl rfl (by decide +kernel) ⟨Nat.le_of_ble_eq_true rfl, Nat.le_of_ble_eq_true rfl⟩) rfl cm0 (cE_0 cy A aK σ) rfl rfl (Nat.le_of_ble_eq_true rfl) ⟨by decide, by decide⟩ dL_placeOf_5 (k' := 1) (n' := 6) (by decide) (by decide) [] ⟨0, 10, 13, 19⟩ [] (by rw [hx]; rfl) (fun z hz => (nomatch hz)) (by decide) (by decide) (X.1.2.2.2.2 _ (by decide +kernel)) (va_Nw.use rfl (X.2.2.2.1.1.1.2.2.2.2.1 _ (by decide))) (fun q9 => ?_)
    refine g_astore X dL_placeOf_13 (by decide) rfl ?_
    refine g_iconst X dL_placeOf_15 (v := (1 : Int32)) (by decide) ?_
    exact g_iret (Wf := (oL cy A aK qo X8)) (u := (σ, f)) X ⟨rfl, rfl⟩ dL_placeOf_16
  exact K0
set_option maxHeartbeats 8000000 in
set_option maxRecDepth 100000 in
theorem w_placeFor_ok {f : Nat → Int64} {σ : St} {a1 : Int32} {a2 : Int32} (hl : l.stackTraces = false) {v : Int32} (h : f_X10_placeFor a1 a2 σ = some (.inr v)) : wI (ZL aK aO aS aV aT) D (cyT cy) l yL_placeFor wsL_placeFor ({ frames := 8, cells := 2, slots := 12, locals := 175 } : Room) (oL cy A aK qo X8) [.ref (A 0), .int a1, .int a2, .ref qo] (σ, f) 0 (σ, (vp_updL f 0 v.toInt64)) 2 12 := by
  refine wI_of (cc := cL_placeFor) (maxL := 5) (ret := (some .int)) (hh := [(0, 10, 13, 19), (0, 10, 17, 13)]) (by decide) rfl (Nat.le_of_ble_eq_true rfl) (fun p e s m args below meth c B X hx => ?_)
  have K0 : gG p l e ({ frames := 8, cells := 2, slots := 12, locals := 175 } : Room) s m args below meth c D (cyT cy) B 5 (MQ below (va_Qi (fun (r' : Int32) (u : St × (Nat → Int64)) => r' = 0 ∧ u = (σ, (vp_updL f 0 v.toInt64))) (gAt D (cyT cy) (oL cy A aK qo X8) B) B) args s 2 12 B) (cW cy A aK ((qo, .inl (cy 5, 1, .inr (.inl f))) :: X8) σ) 0 0 0 [(0, .ref (A 0)), (1, .int a1), (2, .int a2), (3, .ref qo)] [] := by
    refine g_aload_n X dL_placeFor_0 rfl 3 rfl ?_
    refine g_iconst X dL_placeFor_1 (v := (0 : Int32)) (by decide) ?_
    refine g_aload_n X dL_placeFor_2 rfl 0 rfl ?_
    refine g_iload_n X dL_placeFor_3 rfl 1 rfl ?_
    refine g_iload_n X dL_placeFor_4 rfl 2 rfl ?_
    refine g_xVI_ret (AD := A) (As := [.int a1, .int a2]) X (ZL_ok _ _ _ _ _) (xI_up (m_X10_placeFor hl h)) (cwV 2 X.1.2.2.2.2 gL_placeFor_X10_placeFor rfl rfl rfl (by decide +kernel) ⟨Nat.le_of_ble_eq_true rfl, Nat.le_of_ble_eq_true rfl⟩) rfl cm0 (cE_0 cy A aK σ) rfl rfl (Nat.le_of_ble_eq_true rfl) ⟨by decide, by decide⟩ dL_placeFor_5 (k' := 2) (n' := 12) (by decide) (by decide) ?_
    refine g_i2l X dL_placeFor_8 ?_
    refine g_last X 85 5 (cW_85 _ _ _ _ _) rfl (vp_in_nI (n := 0) (N := 1) (by decide) (by decide)) dL_placeFor_9 (cW_s85 _ _ _ _ _ _) ?_
    refine g_goto X (tgt := 21) dL_placeFor_10 (by decide) ?_
    refine g_iconst X dL_placeFor_21 (v := (0 : Int32)) (by decide) ?_
    exact g_iret (Wf := (oL cy A aK qo X8)) (u := (σ, (vp_updL f 0 v.toInt64))) X ⟨rfl, rfl⟩ dL_placeFor_22
  exact K0
set_option maxHeartbeats 8000000 in
set_option maxRecDepth 100000 in
theorem w_placeFor_x1 {f : Nat → Int64} {σ : St} {a1 : Int32} {a2 : Int32} (hl : l.stackTraces = false) (h : f_X10_placeFor a1 a2 σ = some (.inl "java/lang/IndexOutOfBoundsException")) : wI (ZL aK aO aS aV aT) D (cyT cy) l yL_placeFor wsL_placeFor ({ frames := 8, cells := 2, slots := 12, locals := 175 } : Room) (oL cy A aK qo X8) [.ref (A 0), .int a1, .int a2, .ref qo] (σ, f) 1 (σ, f) 2 12 := by
  refine wI_of (cc := cL_placeFor) (maxL := 5) (ret := (some .int)) (hh := [(0, 10, 13, 19), (0, 10, 17, 13)]) (by decide) rfl (Nat.le_of_ble_eq_true rfl) (fun p e s m args below meth c B X hx => ?_)
  have K0 : gG p l e ({ frames := 8, cells := 2, slots := 12, locals := 175 } : Room) s m args below meth c D (cyT cy) B 5 (MQ below (va_Qi (fun (r' : Int32) (u : St × (Nat → Int64)) => r' = 1 ∧ u = (σ, f)) (gAt D (cyT cy) (oL cy A aK qo X8) B) B) args s 2 12 B) (cW cy A aK ((qo, .inl (cy 5, 1, .inr (.inl f))) :: X8) σ) 0 0 0 [(0, .ref (A 0)), (1, .int a1), (2, .int a2), (3, .ref qo)] [] := by
    refine g_aload_n X dL_placeFor_0 rfl 3 rfl ?_
    refine g_iconst X dL_placeFor_1 (v := (0 : Int32)) (by decide) ?_
    refine g_aload_n X dL_placeFor_2 rfl 0 rfl ?_
    refine g_iload_n X dL_placeFor_3 rfl 1 rfl ?_
    refine g_iload_n X dL_placeFor_4 rfl 2 rfl ?_
    refine g_xVI_cat (AD := A) (As := [.int a1, .int a2]) (E0 := "java/lang/IndexOutOfBoundsException") (name := "java/lang/IndexOutOfBoundsException") X (ZL_ok _ _ _ _ _) (xI_up (m_X10_placeFor hl h)) (cwV 2 X.1.2.2.2.2 gL_placeFor_X10_placeFor rfl rfl rfl (by decide +kernel) ⟨Nat.le_of_ble_eq_true rfl, Nat.le_of_ble_eq_true rfl⟩) rfl cm0 (cE_0 cy A aK σ) rfl rfl (Nat.le_of_ble_eq_true rfl) ⟨by decide, by decide⟩ dL_placeFor_5 (k' := 2) (n' := 12) (by decide) (by decide) [] ⟨0, 10, 13, 19⟩ [⟨0, 10, 17, 13⟩] (by rw [hx]; rfl) (fun z hz => (nomatch hz)) (by decide) (by decide) (X.1.2.2.2.2 _ (by decide +kernel)) (va_Nw.use rfl (X.2.2.2.1.1.1.2.2.2.2.1 _ (by decide))) (fun q9 => ?_)
    refine g_astore X dL_placeFor_13 (by decide) rfl ?_
    refine g_iconst X dL_placeFor_15 (v := (1 : Int32)) (by decide) ?_
    exact g_iret (Wf := (oL cy A aK qo X8)) (u := (σ, f)) X ⟨rfl, rfl⟩ dL_placeFor_16
  exact K0
set_option maxHeartbeats 8000000 in
set_option maxRecDepth 100000 in
theorem w_placeFor_x2 {f : Nat → Int64} {σ : St} {a1 : Int32} {a2 : Int32} (hl : l.stackTraces = false) (h : f_X10_placeFor a1 a2 σ = some (.inl "java/lang/IllegalStateException")) : wI (ZL aK aO aS aV aT) D (cyT cy) l yL_placeFor wsL_placeFor ({ frames := 8, cells := 2, slots := 12, locals := 175 } : Room) (oL cy A aK qo X8) [.ref (A 0), .int a1, .int a2, .ref qo] (σ, f) 2 (σ, f) 2 12 := by
  refine wI_of (cc := cL_placeFor) (maxL := 5) (ret := (some .int)) (hh := [(0, 10, 13, 19), (0, 10, 17, 13)]) (by decide) rfl (Nat.le_of_ble_eq_true rfl) (fun p e s m args below meth c B X hx => ?_)
  have K0 : gG p l e ({ frames := 8, cells := 2, slots := 12, locals := 175 } : Room) s m args below meth c D (cyT cy) B 5 (MQ below (va_Qi (fun (r' : Int32) (u : St × (Nat → Int64)) => r' = 2 ∧ u = (σ, f)) (gAt D (cyT cy) (oL cy A aK qo X8) B) B) args s 2 12 B) (cW cy A aK ((qo, .inl (cy 5, 1, .inr (.inl f))) :: X8) σ) 0 0 0 [(0, .ref (A 0)), (1, .int a1), (2, .int a2), (3, .ref qo)] [] := by
    refine g_aload_n X dL_placeFor_0 rfl 3 rfl ?_
    refine g_iconst X dL_placeFor_1 (v := (0 : Int32)) (by decide) ?_
    refine g_aload_n X dL_placeFor_2 rfl 0 rfl ?_
    refine g_iload_n X dL_placeFor_3 rfl 1 rfl ?_
    refine g_iload_n X dL_placeFor_4 rfl 2 rfl ?_
    refine g_xVI_cat (AD := A) (As := [.int a1, .int a2]) (E0 := "java/lang/IllegalStateException") (name := "java/lang/IllegalStateException") X (ZL_ok _ _ _ _ _) (xI_up (m_X10_placeFor hl h)) (cwV 2 X.1.2.2.2.2 gL_placeFor_X10_placeFor rfl rfl rfl (by decide +kernel) ⟨Nat.le_of_ble_eq_true rfl, Nat.le_of_ble_eq_true rfl⟩) rfl cm0 (cE_0 cy A aK σ) rfl rfl (Nat.le_of_ble_eq_true rfl) ⟨by decide, by decide⟩ dL_placeFor_5 (k' := 2) (n' := 12) (by decide) (by decide) [⟨0, 10, 13, 19⟩] ⟨0, 10, 17, 13⟩ [] (by rw [hx]; rfl) (fun z hz => by
      simp only [List.mem_cons, List.not_mem_nil, or_false] at hz
      rcases hz with rfl
      · exact Or.inr ⟨by decide, "java/lang/IndexOutOfBoundsException", X.1.2.2.2.2 _ (by decide +kernel), X.2.2.2.1.2 "java/lang/IllegalStateException" (by decide) "java/lang/IndexOutOfBoundsException" (by decide) (by decide)⟩) (by decide) (by decide) (X.1.2.2.2.2 _ (by decide +kernel)) (va_Nw.use rfl (X.2.2.2.1.1.1.2.2.2.2.1 _ (by decide))) (fun q9 => ?_)
    refine g_astore X dL_placeFor_17 (by decide) rfl ?_
    refine g_iconst X dL_placeFor_19 (v := (2 : Int32)) (by decide) ?_
    exact g_iret (Wf := (oL cy A aK qo X8)) (u := (σ, f)) X ⟨rfl, rfl⟩ dL_placeFor_20
  exact K0
set_option maxHeartbeats 8000000 in
set_option maxRecDepth 100000 in
theorem w_isSorted_ok1 {f : Nat → Int64} {σ : St} {a1 : Int32} (hl : l.stackTraces = false) (h : f_X10_isSorted a1 σ = some (.inr 1)) : wI (ZL aK aO aS aV aT) D (cyT cy) l yL_isSorted wsL_isSorted ({ frames := 8, cells := 1, slots := 6, locals := 172 } : Room) (oL cy A aK qo X8) [.ref (A 0), .int a1, .ref qo] (σ, f) 0 (σ, (vp_updL f 0 (1 : Int64))) 1 6 := by
  refine wI_of (cc := cL_isSorted) (maxL := 4) (ret := (some .int)) (hh := [(0, 16, 19, 19)]) (by decide) rfl (Nat.le_of_ble_eq_true rfl) (fun p e s m args below meth c B X hx => ?_)
  have K0 : gG p l e ({ frames := 8, cells := 1, slots := 6, locals := 172 } : Room) s m args below meth c D (cyT cy) B 4 (MQ below (va_Qi (fun (r' : Int32) (u : St × (Nat → Int64)) => r' = 0 ∧ u = (σ, (vp_updL f 0 (1 : Int64)))) (gAt D (cyT cy) (oL cy A aK qo X8) B) B) args s 1 6 B) (cW cy A aK ((qo, .inl (cy 5, 1, .inr (.inl f))) :: X8) σ) 0 0 0 [(0, .ref (A 0)), (1, .int a1), (2, .ref qo)] [] := by
    refine g_aload_n X dL_isSorted_0 rfl 2 rfl ?_
    refine g_iconst X dL_isSorted_1 (v := (0 : Int32)) (by decide) ?_
    refine g_aload_n X dL_isSorted_2 rfl 0 rfl ?_
    refine g_iload_n X dL_isSorted_3 rfl 1 rfl ?_
    refine g_xVI_ret (AD := A) (As := [.int a1]) X (ZL_ok _ _ _ _ _) (xI_up (m_X10_isSorted hl h)) (cwV 1 X.1.2.2.2.2 gL_isSorted_X10_isSorted rfl rfl rfl (by decide +kernel) ⟨Nat.le_of_ble_eq_true rfl, Nat.le_of_ble_eq_true rfl⟩) rfl cm0 (cE_0 cy A aK σ) rfl rfl (Nat.le_of_ble_eq_true rfl) ⟨by decide, by decide⟩ dL_isSorted_4 (k' := 1) (n' := 6) (by decide) (by decide) ?_
    refine g_if_eq X (tgt := 14) dL_isSorted_7 (by decide) (fun hc => absurd hc (by decide)) (fun hc => ?_)
    refine g_lconst X dL_isSorted_10 (v := (1 : Int64)) (by decide) ?_
    refine g_goto X (tgt := 15) dL_isSorted_11 (by decide) ?_
    refine g_last X 85 5 (cW_85 _ _ _ _ _) rfl (vp_in_nI (n := 0) (N := 1) (by decide) (by decide)) dL_isSorted_15 (cW_s85 _ _ _ _ _ _) ?_
    refine g_goto X (tgt := 22) dL_isSorted_16 (by decide) ?_
    refine g_iconst X dL_isSorted_22 (v := (0 : Int32)) (by decide) ?_
    exact g_iret (Wf := (oL cy A aK qo X8)) (u := (σ, (vp_updL f 0 (1 : Int64)))) X ⟨rfl, rfl⟩ dL_isSorted_23
  exact K0
set_option maxHeartbeats 8000000 in
set_option maxRecDepth 100000 in
theorem w_isSorted_ok0 {f : Nat → Int64} {σ : St} {a1 : Int32} (hl : l.stackTraces = false) (h : f_X10_isSorted a1 σ = some (.inr 0)) : wI (ZL aK aO aS aV aT) D (cyT cy) l yL_isSorted wsL_isSorted ({ frames := 8, cells := 1, slots := 6, locals := 172 } : Room) (oL cy A aK qo X8) [.ref (A 0), .int a1, .ref qo] (σ, f) 0 (σ, (vp_updL f 0 (0 : Int64))) 1 6 := by
  refine wI_of (cc := cL_isSorted) (maxL := 4) (ret := (some .int)) (hh := [(0, 16, 19, 19)]) (by decide) rfl (Nat.le_of_ble_eq_true rfl) (fun p e s m args below meth c B X hx => ?_)
  have K0 : gG p l e ({ frames := 8, cells := 1, slots := 6, locals := 172 } : Room) s m args below meth c D (cyT cy) B 4 (MQ below (va_Qi (fun (r' : Int32) (u : St × (Nat → Int64)) => r' = 0 ∧ u = (σ, (vp_updL f 0 (0 : Int64)))) (gAt D (cyT cy) (oL cy A aK qo X8) B) B) args s 1 6 B) (cW cy A aK ((qo, .inl (cy 5, 1, .inr (.inl f))) :: X8) σ) 0 0 0 [(0, .ref (A 0)), (1, .int a1), (2, .ref qo)] [] := by
    refine g_aload_n X dL_isSorted_0 rfl 2 rfl ?_
    refine g_iconst X dL_isSorted_1 (v := (0 : Int32)) (by decide) ?_
    refine g_aload_n X dL_isSorted_2 rfl 0 rfl ?_
    refine g_iload_n X dL_isSorted_3 rfl 1 rfl ?_
    refine g_xVI_ret (AD := A) (As := [.int a1]) X (ZL_ok _ _ _ _ _) (xI_up (m_X10_isSorted hl h)) (cwV 1 X.1.2.2.2.2 gL_isSorted_X10_isSorted rfl rfl rfl (by decide +kernel) ⟨Nat.le_of_ble_eq_true rfl, Nat.le_of_ble_eq_true rfl⟩) rfl cm0 (cE_0 cy A aK σ) rfl rfl (Nat.le_of_ble_eq_true rfl) ⟨by decide, by decide⟩ dL_isSorted_4 (k' := 1) (n' := 6) (by decide) (by decide) ?_
    refine g_if_eq X (tgt := 14) dL_isSorted_7 (by decide) (fun hc => ?_) (fun hc => absurd rfl hc)
    refine g_lconst X dL_isSorted_14 (v := (0 : Int64)) (by decide) ?_
    refine g_last X 85 5 (cW_85 _ _ _ _ _) rfl (vp_in_nI (n := 0) (N := 1) (by decide) (by decide)) dL_isSorted_15 (cW_s85 _ _ _ _ _ _) ?_
    refine g_goto X (tgt := 22) dL_isSorted_16 (by decide) ?_
    refine g_iconst X dL_isSorted_22 (v := (0 : Int32)) (by decide) ?_
    exact g_iret (Wf := (oL cy A aK qo X8)) (u := (σ, (vp_updL f 0 (0 : Int64)))) X ⟨rfl, rfl⟩ dL_isSorted_23
  exact K0
set_option maxHeartbeats 8000000 in
set_option maxRecDepth 100000 in
theorem w_isSorted_x1 {f : Nat → Int64} {σ : St} {a1 : Int32} (hl : l.stackTraces = false) (h : f_X10_isSorted a1 σ = some (.inl "java/lang/IndexOutOfBoundsException")) : wI (ZL aK aO aS aV aT) D (cyT cy) l yL_isSorted wsL_isSorted ({ frames := 8, cells := 1, slots := 6, locals := 172 } : Room) (oL cy A aK qo X8) [.ref (A 0), .int a1, .ref qo] (σ, f) 1 (σ, f) 1 6 := by
  refine wI_of (cc := cL_isSorted) (maxL := 4) (ret := (some .int)) (hh := [(0, 16, 19, 19)]) (by decide) rfl (Nat.le_of_ble_eq_true rfl) (fun p e s m args below meth c B X hx => ?_)
  have K0 : gG p l e ({ frames := 8, cells := 1, slots := 6, locals := 172 } : Room) s m args below meth c D (cyT cy) B 4 (MQ below (va_Qi (fun (r' : Int32) (u : St × (Nat → Int64)) => r' = 1 ∧ u = (σ, f)) (gAt D (cyT cy) (oL cy A aK qo X8) B) B) args s 1 6 B) (cW cy A aK ((qo, .inl (cy 5, 1, .inr (.inl f))) :: X8) σ) 0 0 0 [(0, .ref (A 0)), (1, .int a1), (2, .ref qo)] [] := by
    refine g_aload_n X dL_isSorted_0 rfl 2 rfl ?_
    refine g_iconst X dL_isSorted_1 (v := (0 : Int32)) (by decide) ?_
    refine g_aload_n X dL_isSorted_2 rfl 0 rfl ?_
    refine g_iload_n X dL_isSorted_3 rfl 1 rfl ?_
    refine g_xVI_cat (AD := A) (As := [.int a1]) (E0 := "java/lang/IndexOutOfBoundsException") (name := "java/lang/IndexOutOfBoundsException") X (ZL_ok _ _ _ _ _) (xI_up (m_X10_isSorted hl h)) (cwV 1 X.1.2.2.2.2 gL_isSorted_X10_isSorted rfl rfl rfl (by decide +kernel) ⟨Nat.le_of_ble_eq_true rfl, Nat.le_of_ble_eq_true rfl⟩) rfl cm0 (cE_0 cy A aK σ) rfl rfl (Nat.le_of_ble_eq_true rfl) ⟨by decide, by decide⟩ dL_isSorted_4 (k' := 1) (n' := 6) (by decide) (by decide) [] ⟨0, 16, 19, 19⟩ [] (by rw [hx]; rfl) (fun z hz => (nomatch hz)) (by decide) (by decide) (X.1.2.2.2.2 _ (by decide +kernel)) (va_Nw.use rfl (X.2.2.2.1.1.1.2.2.2.2.1 _ (by decide))) (fun q9 => ?_)
    refine g_astore_n X dL_isSorted_19 rfl (by decide) rfl ?_
    refine g_iconst X dL_isSorted_20 (v := (1 : Int32)) (by decide) ?_
    exact g_iret (Wf := (oL cy A aK qo X8)) (u := (σ, f)) X ⟨rfl, rfl⟩ dL_isSorted_21
  exact K0
set_option maxHeartbeats 8000000 in
set_option maxRecDepth 100000 in
theorem w_runs_ok {f : Nat → Int64} {σ : St} {a1 : Int32} (hl : l.stackTraces = false) {v : Int32} (h : f_X10_runs a1 σ = some (.inr v)) : wI (ZL aK aO aS aV aT) D (cyT cy) l yL_runs wsL_runs ({ frames := 8, cells := 1, slots := 6, locals := 172 } : Room) (oL cy A aK qo X8) [.ref (A 0), .int a1, .ref qo] (σ, f) 0 (σ, (vp_updL f 0 v.toInt64)) 1 6 := by
  refine wI_of (cc := cL_runs) (maxL := 4) (ret := (some .int)) (hh := [(0, 9, 12, 19)]) (by decide) rfl (Nat.le_of_ble_eq_true rfl) (fun p e s m args below meth c B X hx => ?_)
  have K0 : gG p l e ({ frames := 8, cells := 1, slots := 6, locals := 172 } : Room) s m args below meth c D (cyT cy) B 4 (MQ below (va_Qi (fun (r' : Int32) (u : St × (Nat → Int64)) => r' = 0 ∧ u = (σ, (vp_updL f 0 v.toInt64))) (gAt D (cyT cy) (oL cy A aK qo X8) B) B) args s 1 6 B) (cW cy A aK ((qo, .inl (cy 5, 1, .inr (.inl f))) :: X8) σ) 0 0 0 [(0, .ref (A 0)), (1, .int a1), (2, .ref qo)] [] := by
    refine g_aload_n X dL_runs_0 rfl 2 rfl ?_
    refine g_iconst X dL_runs_1 (v := (0 : Int32)) (by decide) ?_
    refine g_aload_n X dL_runs_2 rfl 0 rfl ?_
    refine g_iload_n X dL_runs_3 rfl 1 rfl ?_
    refine g_xVI_ret (AD := A) (As := [.int a1]) X (ZL_ok _ _ _ _ _) (xI_up (m_X10_runs hl h)) (cwV 1 X.1.2.2.2.2 gL_runs_X10_runs rfl rfl rfl (by decide +kernel) ⟨Nat.le_of_ble_eq_true rfl, Nat.le_of_ble_eq_true rfl⟩) rfl cm0 (cE_0 cy A aK σ) rfl rfl (Nat.le_of_ble_eq_true rfl) ⟨by decide, by decide⟩ dL_runs_4 (k' := 1) (n' := 6) (by decide) (by decide) ?_
    refine g_i2l X dL_runs_7 ?_
    refine g_last X 85 5 (cW_85 _ _ _ _ _) rfl (vp_in_nI (n := 0) (N := 1) (by decide) (by decide)) dL_runs_8 (cW_s85 _ _ _ _ _ _) ?_
    refine g_goto X (tgt := 15) dL_runs_9 (by decide) ?_
    refine g_iconst X dL_runs_15 (v := (0 : Int32)) (by decide) ?_
    exact g_iret (Wf := (oL cy A aK qo X8)) (u := (σ, (vp_updL f 0 v.toInt64))) X ⟨rfl, rfl⟩ dL_runs_16
  exact K0
set_option maxHeartbeats 8000000 in
set_option maxRecDepth 100000 in
theorem w_runs_x1 {f : Nat → Int64} {σ : St} {a1 : Int32} (hl : l.stackTraces = false) (h : f_X10_runs a1 σ = some (.inl "java/lang/IndexOutOfBoundsException")) : wI (ZL aK aO aS aV aT) D (cyT cy) l yL_runs wsL_runs ({ frames := 8, cells := 1, slots := 6, locals := 172 } : Room) (oL cy A aK qo X8) [.ref (A 0), .int a1, .ref qo] (σ, f) 1 (σ, f) 1 6 := by
  refine wI_of (cc := cL_runs) (maxL := 4) (ret := (some .int)) (hh := [(0, 9, 12, 19)]) (by decide) rfl (Nat.le_of_ble_eq_true rfl) (fun p e s m args below meth c B X hx => ?_)
  have K0 : gG p l e ({ frames := 8, cells := 1, slots := 6, locals := 172 } : Room) s m args below meth c D (cyT cy) B 4 (MQ below (va_Qi (fun (r' : Int32) (u : St × (Nat → Int64)) => r' = 1 ∧ u = (σ, f)) (gAt D (cyT cy) (oL cy A aK qo X8) B) B) args s 1 6 B) (cW cy A aK ((qo, .inl (cy 5, 1, .inr (.inl f))) :: X8) σ) 0 0 0 [(0, .ref (A 0)), (1, .int a1), (2, .ref qo)] [] := by
    refine g_aload_n X dL_runs_0 rfl 2 rfl ?_
    refine g_iconst X dL_runs_1 (v := (0 : Int32)) (by decide) ?_
    refine g_aload_n X dL_runs_2 rfl 0 rfl ?_
    refine g_iload_n X dL_runs_3 rfl 1 rfl ?_
    refine g_xVI_cat (AD := A) (As := [.int a1]) (E0 := "java/lang/IndexOutOfBoundsException") (name := "java/lang/IndexOutOfBoundsException") X (ZL_ok _ _ _ _ _) (xI_up (m_X10_runs hl h)) (cwV 1 X.1.2.2.2.2 gL_runs_X10_runs rfl rfl rfl (by decide +kernel) ⟨Nat.le_of_ble_eq_true rfl, Nat.le_of_ble_eq_true rfl⟩) rfl cm0 (cE_0 cy A aK σ) rfl rfl (Nat.le_of_ble_eq_true rfl) ⟨by decide, by decide⟩ dL_runs_4 (k' := 1) (n' := 6) (by decide) (by decide) [] ⟨0, 9, 12, 19⟩ [] (by rw [hx]; rfl) (fun z hz => (nomatch hz)) (by decide) (by decide) (X.1.2.2.2.2 _ (by decide +kernel)) (va_Nw.use rfl (X.2.2.2.1.1.1.2.2.2.2.1 _ (by decide))) (fun q9 => ?_)
    refine g_astore_n X dL_runs_12 rfl (by decide) rfl ?_
    refine g_iconst X dL_runs_13 (v := (1 : Int32)) (by decide) ?_
    exact g_iret (Wf := (oL cy A aK qo X8)) (u := (σ, f)) X ⟨rfl, rfl⟩ dL_runs_14
  exact K0
set_option maxHeartbeats 8000000 in
set_option maxRecDepth 100000 in
theorem w_longestRun_ok {f : Nat → Int64} {σ : St} {a1 : Int32} (hl : l.stackTraces = false) {v : Int32} (h : f_X10_longestRun a1 σ = some (.inr v)) : wI (ZL aK aO aS aV aT) D (cyT cy) l yL_longestRun wsL_longestRun ({ frames := 8, cells := 1, slots := 6, locals := 172 } : Room) (oL cy A aK qo X8) [.ref (A 0), .int a1, .ref qo] (σ, f) 0 (σ, (vp_updL f 0 v.toInt64)) 1 6 := by
  refine wI_of (cc := cL_longestRun) (maxL := 4) (ret := (some .int)) (hh := [(0, 9, 12, 19)]) (by decide) rfl (Nat.le_of_ble_eq_true rfl) (fun p e s m args below meth c B X hx => ?_)
  have K0 : gG p l e ({ frames := 8, cells := 1, slots := 6, locals := 172 } : Room) s m args below meth c D (cyT cy) B 4 (MQ below (va_Qi (fun (r' : Int32) (u : St × (Nat → Int64)) => r' = 0 ∧ u = (σ, (vp_updL f 0 v.toInt64))) (gAt D (cyT cy) (oL cy A aK qo X8) B) B) args s 1 6 B) (cW cy A aK ((qo, .inl (cy 5, 1, .inr (.inl f))) :: X8) σ) 0 0 0 [(0, .ref (A 0)), (1, .int a1), (2, .ref qo)] [] := by
    refine g_aload_n X dL_longestRun_0 rfl 2 rfl ?_
    refine g_iconst X dL_longestRun_1 (v := (0 : Int32)) (by decide) ?_
    refine g_aload_n X dL_longestRun_2 rfl 0 rfl ?_
    refine g_iload_n X dL_longestRun_3 rfl 1 rfl ?_
    refine g_xVI_ret (AD := A) (As := [.int a1]) X (ZL_ok _ _ _ _ _) (xI_up (m_X10_longestRun hl h)) (cwV 1 X.1.2.2.2.2 gL_longestRun_X10_longestRun rfl rfl rfl (by decide +kernel) ⟨Nat.le_of_ble_eq_true rfl, Nat.le_of_ble_eq_true rfl⟩) rfl cm0 (cE_0 cy A aK σ) rfl rfl (Nat.le_of_ble_eq_true rfl) ⟨by decide, by decide⟩ dL_longestRun_4 (k' := 1) (n' := 6) (by decide) (by decide) ?_
    refine g_i2l X dL_longestRun_7 ?_
    refine g_last X 85 5 (cW_85 _ _ _ _ _) rfl (vp_in_nI (n := 0) (N := 1) (by decide) (by decide)) dL_longestRun_8 (cW_s85 _ _ _ _ _ _) ?_
    refine g_goto X (tgt := 15) dL_longestRun_9 (by decide) ?_
    refine g_iconst X dL_longestRun_15 (v := (0 : Int32)) (by decide) ?_
    exact g_iret (Wf := (oL cy A aK qo X8)) (u := (σ, (vp_updL f 0 v.toInt64))) X ⟨rfl, rfl⟩ dL_longestRun_16
  exact K0
set_option maxHeartbeats 8000000 in
set_option maxRecDepth 100000 in
theorem w_longestRun_x1 {f : Nat → Int64} {σ : St} {a1 : Int32} (hl : l.stackTraces = false) (h : f_X10_longestRun a1 σ = some (.inl "java/lang/IndexOutOfBoundsException")) : wI (ZL aK aO aS aV aT) D (cyT cy) l yL_longestRun wsL_longestRun ({ frames := 8, cells := 1, slots := 6, locals := 172 } : Room) (oL cy A aK qo X8) [.ref (A 0), .int a1, .ref qo] (σ, f) 1 (σ, f) 1 6 := by
  refine wI_of (cc := cL_longestRun) (maxL := 4) (ret := (some .int)) (hh := [(0, 9, 12, 19)]) (by decide) rfl (Nat.le_of_ble_eq_true rfl) (fun p e s m args below meth c B X hx => ?_)
  have K0 : gG p l e ({ frames := 8, cells := 1, slots := 6, locals := 172 } : Room) s m args below meth c D (cyT cy) B 4 (MQ below (va_Qi (fun (r' : Int32) (u : St × (Nat → Int64)) => r' = 1 ∧ u = (σ, f)) (gAt D (cyT cy) (oL cy A aK qo X8) B) B) args s 1 6 B) (cW cy A aK ((qo, .inl (cy 5, 1, .inr (.inl f))) :: X8) σ) 0 0 0 [(0, .ref (A 0)), (1, .int a1), (2, .ref qo)] [] := by
    refine g_aload_n X dL_longestRun_0 rfl 2 rfl ?_
    refine g_iconst X dL_longestRun_1 (v := (0 : Int32)) (by decide) ?_
    refine g_aload_n X dL_longestRun_2 rfl 0 rfl ?_
    refine g_iload_n X dL_longestRun_3 rfl 1 rfl ?_
    refine g_xVI_cat (AD := A) (As := [.int a1]) (E0 := "java/lang/IndexOutOfBoundsException") (name := "java/lang/IndexOutOfBoundsException") X (ZL_ok _ _ _ _ _) (xI_up (m_X10_longestRun hl h)) (cwV 1 X.1.2.2.2.2 gL_longestRun_X10_longestRun rfl rfl rfl (by decide +kernel) ⟨Nat.le_of_ble_eq_true rfl, Nat.le_of_ble_eq_true rfl⟩) rfl cm0 (cE_0 cy A aK σ) rfl rfl (Nat.le_of_ble_eq_true rfl) ⟨by decide, by decide⟩ dL_longestRun_4 (k' := 1) (n' := 6) (by decide) (by decide) [] ⟨0, 9, 12, 19⟩ [] (by rw [hx]; rfl) (fun z hz => (nomatch hz)) (by decide) (by decide) (X.1.2.2.2.2 _ (by decide +kernel)) (va_Nw.use rfl (X.2.2.2.1.1.1.2.2.2.2.1 _ (by decide))) (fun q9 => ?_)
    refine g_astore_n X dL_longestRun_12 rfl (by decide) rfl ?_
    refine g_iconst X dL_longestRun_13 (v := (1 : Int32)) (by decide) ?_
    exact g_iret (Wf := (oL cy A aK qo X8)) (u := (σ, f)) X ⟨rfl, rfl⟩ dL_longestRun_14
  exact K0
end WR
