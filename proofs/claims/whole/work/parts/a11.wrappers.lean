section WR
variable {cy : Nat → ClassId} {A aK aO aS aV aT : Nat → Nat} {D : va_G} {l : Launch} {qo qo9 : Nat} {e9 : va_E} {X8 : va_W}
set_option maxHeartbeats 8000000 in
set_option maxRecDepth 100000 in
theorem w_pour_ok {f : Nat → Int64} {σ σ' : St} {a1 : Int32} {a2 : Int32} (hl : l.stackTraces = false) {v : Int32} (h : f_X10_pour a1 a2 σ = some (.inr v, σ')) : wI (ZL aK aO aS aV aT) D (cyT cy) l yL_pour wsL_pour ({ frames := 8, cells := 4, slots := 24, locals := 176 } : Room) (oL cy A aK qo X8) [.ref (A 0), .int a1, .int a2, .ref qo] (σ, f) 0 (σ', (vp_updL f 0 v.toInt64)) 4 24 := by
  refine wI_of (cc := cL_pour) (maxL := 5) (ret := (some .int)) (hh := [(0, 10, 13, 19), (0, 10, 17, 32), (0, 10, 21, 13)]) (by decide) rfl (Nat.le_of_ble_eq_true rfl) (fun p e s m args below meth c B X hx => ?_)
  have K0 : gG p l e ({ frames := 8, cells := 4, slots := 24, locals := 176 } : Room) s m args below meth c D (cyT cy) B 5 (MQ below (va_Qi (fun (r' : Int32) (u : St × (Nat → Int64)) => r' = 0 ∧ u = (σ', (vp_updL f 0 v.toInt64))) (gAt D (cyT cy) (oL cy A aK qo X8) B) B) args s 4 24 B) (cW cy A aK ((qo, .inl (cy 5, 1, .inr (.inl f))) :: X8) σ) 0 0 0 [(0, .ref (A 0)), (1, .int a1), (2, .int a2), (3, .ref qo)] [] := by
    refine g_aload_n X dL_pour_0 rfl 3 rfl ?_
    refine g_iconst X dL_pour_1 (v := (0 : Int32)) (by decide) ?_
    refine g_aload_n X dL_pour_2 rfl 0 rfl ?_
    refine g_iload_n X dL_pour_3 rfl 1 rfl ?_
    refine g_iload_n X dL_pour_4 rfl 2 rfl ?_
    refine g_xVI_ret (AD := A) (As := [.int a1, .int a2]) X (ZL_ok _ _ _ _ _) (xI_up (m_X10_pour hl h)) (cwV 2 X.1.2.2.2.2 gL_pour_X10_pour rfl rfl rfl (by decide +kernel) ⟨Nat.le_of_ble_eq_true rfl, Nat.le_of_ble_eq_true rfl⟩) rfl cm0 (cE_0 cy A aK σ) rfl rfl (Nat.le_of_ble_eq_true rfl) ⟨by decide, by decide⟩ dL_pour_5 (k' := 4) (n' := 24) (by decide) (by decide) ?_
    refine g_i2l X dL_pour_8 ?_
    refine g_last X 85 5 (cW_85 _ _ _ _ _) rfl (vp_in_nI (n := 0) (N := 1) (by decide) (by decide)) dL_pour_9 (cW_s85 _ _ _ _ _ _) ?_
    refine g_goto X (tgt := 25) dL_pour_10 (by decide) ?_
    refine g_iconst X dL_pour_25 (v := (0 : Int32)) (by decide) ?_
    exact g_iret (Wf := (oL cy A aK qo X8)) (u := (σ', (vp_updL f 0 v.toInt64))) X ⟨rfl, rfl⟩ dL_pour_26
  exact K0
set_option maxHeartbeats 8000000 in
set_option maxRecDepth 100000 in
theorem w_pour_x1 {f : Nat → Int64} {σ σ' : St} {a1 : Int32} {a2 : Int32} (hl : l.stackTraces = false) (h : f_X10_pour a1 a2 σ = some (.inl "java/lang/IndexOutOfBoundsException", σ')) : wI (ZL aK aO aS aV aT) D (cyT cy) l yL_pour wsL_pour ({ frames := 8, cells := 4, slots := 24, locals := 176 } : Room) (oL cy A aK qo X8) [.ref (A 0), .int a1, .int a2, .ref qo] (σ, f) 1 (σ', f) 4 24 := by
  refine wI_of (cc := cL_pour) (maxL := 5) (ret := (some .int)) (hh := [(0, 10, 13, 19), (0, 10, 17, 32), (0, 10, 21, 13)]) (by decide) rfl (Nat.le_of_ble_eq_true rfl) (fun p e s m args below meth c B X hx => ?_)
  have K0 : gG p l e ({ frames := 8, cells := 4, slots := 24, locals := 176 } : Room) s m args below meth c D (cyT cy) B 5 (MQ below (va_Qi (fun (r' : Int32) (u : St × (Nat → Int64)) => r' = 1 ∧ u = (σ', f)) (gAt D (cyT cy) (oL cy A aK qo X8) B) B) args s 4 24 B) (cW cy A aK ((qo, .inl (cy 5, 1, .inr (.inl f))) :: X8) σ) 0 0 0 [(0, .ref (A 0)), (1, .int a1), (2, .int a2), (3, .ref qo)] [] := by
    refine g_aload_n X dL_pour_0 rfl 3 rfl ?_
    refine g_iconst X dL_pour_1 (v := (0 : Int32)) (by decide) ?_
    refine g_aload_n X dL_pour_2 rfl 0 rfl ?_
    refine g_iload_n X dL_pour_3 rfl 1 rfl ?_
    refine g_iload_n X dL_pour_4 rfl 2 rfl ?_
    refine g_xVI_cat (AD := A) (As := [.int a1, .int a2]) (E0 := "java/lang/IndexOutOfBoundsException") (name := "java/lang/IndexOutOfBoundsException") X (ZL_ok _ _ _ _ _) (xI_up (m_X10_pour hl h)) (cwV 2 X.1.2.2.2.2 gL_pour_X10_pour rfl rfl rfl (by decide +kernel) ⟨Nat.le_of_ble_eq_true rfl, Nat.le_of_ble_eq_true rfl⟩) rfl cm0 (cE_0 cy A aK σ) rfl rfl (Nat.le_of_ble_eq_true rfl) ⟨by decide, by decide⟩ dL_pour_5 (k' := 4) (n' := 24) (by decide) (by decide) [] ⟨0, 10, 13, 19⟩ [⟨0, 10, 17, 32⟩, ⟨0, 10, 21, 13⟩] (by rw [hx]; rfl) (fun z hz => (nomatch hz)) (by decide) (by decide) (X.1.2.2.2.2 _ (by decide +kernel)) (va_Nw.use rfl (X.2.2.2.1.1.1.2.2.2.2.1 _ (by decide))) (fun q9 => ?_)
    refine g_astore X dL_pour_13 (by decide) rfl ?_
    refine g_iconst X dL_pour_15 (v := (1 : Int32)) (by decide) ?_
    exact g_iret (Wf := (oL cy A aK qo X8)) (u := (σ', f)) X ⟨rfl, rfl⟩ dL_pour_16
  exact K0
set_option maxHeartbeats 8000000 in
set_option maxRecDepth 100000 in
theorem w_pour_x2 {f : Nat → Int64} {σ σ' : St} {a1 : Int32} {a2 : Int32} (hl : l.stackTraces = false) (h : f_X10_pour a1 a2 σ = some (.inl "java/lang/IllegalArgumentException", σ')) : wI (ZL aK aO aS aV aT) D (cyT cy) l yL_pour wsL_pour ({ frames := 8, cells := 4, slots := 24, locals := 176 } : Room) (oL cy A aK qo X8) [.ref (A 0), .int a1, .int a2, .ref qo] (σ, f) 2 (σ', f) 4 24 := by
  refine wI_of (cc := cL_pour) (maxL := 5) (ret := (some .int)) (hh := [(0, 10, 13, 19), (0, 10, 17, 32), (0, 10, 21, 13)]) (by decide) rfl (Nat.le_of_ble_eq_true rfl) (fun p e s m args below meth c B X hx => ?_)
  have K0 : gG p l e ({ frames := 8, cells := 4, slots := 24, locals := 176 } : Room) s m args below meth c D (cyT cy) B 5 (MQ below (va_Qi (fun (r' : Int32) (u : St × (Nat → Int64)) => r' = 2 ∧ u = (σ', f)) (gAt D (cyT cy) (oL cy A aK qo X8) B) B) args s 4 24 B) (cW cy A aK ((qo, .inl (cy 5, 1, .inr (.inl f))) :: X8) σ) 0 0 0 [(0, .ref (A 0)), (1, .int a1), (2, .int a2), (3, .ref qo)] [] := by
    refine g_aload_n X dL_pour_0 rfl 3 rfl ?_
    refine g_iconst X dL_pour_1 (v := (0 : Int32)) (by decide) ?_
    refine g_aload_n X dL_pour_2 rfl 0 rfl ?_
    refine g_iload_n X dL_pour_3 rfl 1 rfl ?_
    refine g_iload_n X dL_pour_4 rfl 2 rfl ?_
    refine g_xVI_cat (AD := A) (As := [.int a1, .int a2]) (E0 := "java/lang/IllegalArgumentException") (name := "java/lang/IllegalArgumentException") X (ZL_ok _ _ _ _ _) (xI_up (m_X10_pour hl h)) (cwV 2 X.1.2.2.2.2 gL_pour_X10_pour rfl rfl rfl (by decide +kernel) ⟨Nat.le_of_ble_eq_true rfl, Nat.le_of_ble_eq_true rfl⟩) rfl cm0 (cE_0 cy A aK σ) rfl rfl (Nat.le_of_ble_eq_true rfl) ⟨by decide, by decide⟩ dL_pour_5 (k' := 4) (n' := 24) (by decide) (by decide) [⟨0, 10, 13, 19⟩] ⟨0, 10, 17, 32⟩ [⟨0, 10, 21, 13⟩] (by rw [hx]; rfl) (fun z hz => by
      simp only [List.mem_cons, List.not_mem_nil, or_false] at hz
      rcases hz with rfl
      · exact Or.inr ⟨by decide, "java/lang/IndexOutOfBoundsException", X.1.2.2.2.2 _ (by decide +kernel), X.2.2.2.1.2 "java/lang/IllegalArgumentException" (by decide) "java/lang/IndexOutOfBoundsException" (by decide) (by decide)⟩) (by decide) (by decide) (X.1.2.2.2.2 _ (by decide +kernel)) (va_Nw.use rfl (X.2.2.2.1.1.1.2.2.2.2.1 _ (by decide))) (fun q9 => ?_)
    refine g_astore X dL_pour_17 (by decide) rfl ?_
    refine g_iconst X dL_pour_19 (v := (2 : Int32)) (by decide) ?_
    exact g_iret (Wf := (oL cy A aK qo X8)) (u := (σ', f)) X ⟨rfl, rfl⟩ dL_pour_20
  exact K0
set_option maxHeartbeats 8000000 in
set_option maxRecDepth 100000 in
theorem w_pour_x3 {f : Nat → Int64} {σ σ' : St} {a1 : Int32} {a2 : Int32} (hl : l.stackTraces = false) (h : f_X10_pour a1 a2 σ = some (.inl "java/lang/IllegalStateException", σ')) : wI (ZL aK aO aS aV aT) D (cyT cy) l yL_pour wsL_pour ({ frames := 8, cells := 4, slots := 24, locals := 176 } : Room) (oL cy A aK qo X8) [.ref (A 0), .int a1, .int a2, .ref qo] (σ, f) 3 (σ', f) 4 24 := by
  refine wI_of (cc := cL_pour) (maxL := 5) (ret := (some .int)) (hh := [(0, 10, 13, 19), (0, 10, 17, 32), (0, 10, 21, 13)]) (by decide) rfl (Nat.le_of_ble_eq_true rfl) (fun p e s m args below meth c B X hx => ?_)
  have K0 : gG p l e ({ frames := 8, cells := 4, slots := 24, locals := 176 } : Room) s m args below meth c D (cyT cy) B 5 (MQ below (va_Qi (fun (r' : Int32) (u : St × (Nat → Int64)) => r' = 3 ∧ u = (σ', f)) (gAt D (cyT cy) (oL cy A aK qo X8) B) B) args s 4 24 B) (cW cy A aK ((qo, .inl (cy 5, 1, .inr (.inl f))) :: X8) σ) 0 0 0 [(0, .ref (A 0)), (1, .int a1), (2, .int a2), (3, .ref qo)] [] := by
    refine g_aload_n X dL_pour_0 rfl 3 rfl ?_
    refine g_iconst X dL_pour_1 (v := (0 : Int32)) (by decide) ?_
    refine g_aload_n X dL_pour_2 rfl 0 rfl ?_
    refine g_iload_n X dL_pour_3 rfl 1 rfl ?_
    refine g_iload_n X dL_pour_4 rfl 2 rfl ?_
    refine g_xVI_cat (AD := A) (As := [.int a1, .int a2]) (E0 := "java/lang/IllegalStateException") (name := "java/lang/IllegalStateException") X (ZL_ok _ _ _ _ _) (xI_up (m_X10_pour hl h)) (cwV 2 X.1.2.2.2.2 gL_pour_X10_pour rfl rfl rfl (by decide +kernel) ⟨Nat.le_of_ble_eq_true rfl, Nat.le_of_ble_eq_true rfl⟩) rfl cm0 (cE_0 cy A aK σ) rfl rfl (Nat.le_of_ble_eq_true rfl) ⟨by decide, by decide⟩ dL_pour_5 (k' := 4) (n' := 24) (by decide) (by decide) [⟨0, 10, 13, 19⟩, ⟨0, 10, 17, 32⟩] ⟨0, 10, 21, 13⟩ [] (by rw [hx]; rfl) (fun z hz => by
      simp only [List.mem_cons, List.not_mem_nil, or_false] at hz
      rcases hz with rfl | rfl
      · exact Or.inr ⟨by decide, "java/lang/IndexOutOfBoundsException", X.1.2.2.2.2 _ (by decide +kernel), X.2.2.2.1.2 "java/lang/IllegalStateException" (by decide) "java/lang/IndexOutOfBoundsException" (by decide) (by decide)⟩
      · exact Or.inr ⟨by decide, "java/lang/IllegalArgumentException", X.1.2.2.2.2 _ (by decide +kernel), X.2.2.2.1.2 "java/lang/IllegalStateException" (by decide) "java/lang/IllegalArgumentException" (by decide) (by decide)⟩) (by decide) (by decide) (X.1.2.2.2.2 _ (by decide +kernel)) (va_Nw.use rfl (X.2.2.2.1.1.1.2.2.2.2.1 _ (by decide))) (fun q9 => ?_)
    refine g_astore X dL_pour_21 (by decide) rfl ?_
    refine g_iconst X dL_pour_23 (v := (3 : Int32)) (by decide) ?_
    exact g_iret (Wf := (oL cy A aK qo X8)) (u := (σ', f)) X ⟨rfl, rfl⟩ dL_pour_24
  exact K0
set_option maxHeartbeats 8000000 in
set_option maxRecDepth 100000 in
theorem w_deal_ok {f : Nat → Int64} {σ σ' : St} {a1 : Int32} {a2 : Int32} (hl : l.stackTraces = false) {v : Int32} (h : f_X10_deal a1 a2 σ = some (.inr v, σ')) : wI (ZL aK aO aS aV aT) D (cyT cy) l yL_deal wsL_deal ({ frames := 8, cells := 4, slots := 24, locals := 178 } : Room) (oL cy A aK qo X8) [.ref (A 0), .int a1, .int a2, .ref qo] (σ, f) 0 (σ', (vp_updL f 0 v.toInt64)) 4 24 := by
  refine wI_of (cc := cL_deal) (maxL := 5) (ret := (some .int)) (hh := [(0, 10, 13, 19), (0, 10, 17, 32), (0, 10, 21, 13)]) (by decide) rfl (Nat.le_of_ble_eq_true rfl) (fun p e s m args below meth c B X hx => ?_)
  have K0 : gG p l e ({ frames := 8, cells := 4, slots := 24, locals := 178 } : Room) s m args below meth c D (cyT cy) B 5 (MQ below (va_Qi (fun (r' : Int32) (u : St × (Nat → Int64)) => r' = 0 ∧ u = (σ', (vp_updL f 0 v.toInt64))) (gAt D (cyT cy) (oL cy A aK qo X8) B) B) args s 4 24 B) (cW cy A aK ((qo, .inl (cy 5, 1, .inr (.inl f))) :: X8) σ) 0 0 0 [(0, .ref (A 0)), (1, .int a1), (2, .int a2), (3, .ref qo)] [] := by
    refine g_aload_n X dL_deal_0 rfl 3 rfl ?_
    refine g_iconst X dL_deal_1 (v := (0 : Int32)) (by decide) ?_
    refine g_aload_n X dL_deal_2 rfl 0 rfl ?_
    refine g_iload_n X dL_deal_3 rfl 1 rfl ?_
    refine g_iload_n X dL_deal_4 rfl 2 rfl ?_
    refine g_xVI_ret (AD := A) (As := [.int a1, .int a2]) X (ZL_ok _ _ _ _ _) (xI_up (m_X10_deal hl h)) (cwV 2 X.1.2.2.2.2 gL_deal_X10_deal rfl rfl rfl (by decide +kernel) ⟨Nat.le_of_ble_eq_true rfl, Nat.le_of_ble_eq_true rfl⟩) rfl cm0 (cE_0 cy A aK σ) rfl rfl (Nat.le_of_ble_eq_true rfl) ⟨by decide, by decide⟩ dL_deal_5 (k' := 4) (n' := 24) (by decide) (by decide) ?_
    refine g_i2l X dL_deal_8 ?_
    refine g_last X 85 5 (cW_85 _ _ _ _ _) rfl (vp_in_nI (n := 0) (N := 1) (by decide) (by decide)) dL_deal_9 (cW_s85 _ _ _ _ _ _) ?_
    refine g_goto X (tgt := 25) dL_deal_10 (by decide) ?_
    refine g_iconst X dL_deal_25 (v := (0 : Int32)) (by decide) ?_
    exact g_iret (Wf := (oL cy A aK qo X8)) (u := (σ', (vp_updL f 0 v.toInt64))) X ⟨rfl, rfl⟩ dL_deal_26
  exact K0
set_option maxHeartbeats 8000000 in
set_option maxRecDepth 100000 in
theorem w_deal_x1 {f : Nat → Int64} {σ σ' : St} {a1 : Int32} {a2 : Int32} (hl : l.stackTraces = false) (h : f_X10_deal a1 a2 σ = some (.inl "java/lang/IndexOutOfBoundsException", σ')) : wI (ZL aK aO aS aV aT) D (cyT cy) l yL_deal wsL_deal ({ frames := 8, cells := 4, slots := 24, locals := 178 } : Room) (oL cy A aK qo X8) [.ref (A 0), .int a1, .int a2, .ref qo] (σ, f) 1 (σ', f) 4 24 := by
  refine wI_of (cc := cL_deal) (maxL := 5) (ret := (some .int)) (hh := [(0, 10, 13, 19), (0, 10, 17, 32), (0, 10, 21, 13)]) (by decide) rfl (Nat.le_of_ble_eq_true rfl) (fun p e s m args below meth c B X hx => ?_)
  have K0 : gG p l e ({ frames := 8, cells := 4, slots := 24, locals := 178 } : Room) s m args below meth c D (cyT cy) B 5 (MQ below (va_Qi (fun (r' : Int32) (u : St × (Nat → Int64)) => r' = 1 ∧ u = (σ', f)) (gAt D (cyT cy) (oL cy A aK qo X8) B) B) args s 4 24 B) (cW cy A aK ((qo, .inl (cy 5, 1, .inr (.inl f))) :: X8) σ) 0 0 0 [(0, .ref (A 0)), (1, .int a1), (2, .int a2), (3, .ref qo)] [] := by
    refine g_aload_n X dL_deal_0 rfl 3 rfl ?_
    refine g_iconst X dL_deal_1 (v := (0 : Int32)) (by decide) ?_
    refine g_aload_n X dL_deal_2 rfl 0 rfl ?_
    refine g_iload_n X dL_deal_3 rfl 1 rfl ?_
    refine g_iload_n X dL_deal_4 rfl 2 rfl ?_
    refine g_xVI_cat (AD := A) (As := [.int a1, .int a2]) (E0 := "java/lang/IndexOutOfBoundsException") (name := "java/lang/IndexOutOfBoundsException") X (ZL_ok _ _ _ _ _) (xI_up (m_X10_deal hl h)) (cwV 2 X.1.2.2.2.2 gL_deal_X10_deal rfl rfl rfl (by decide +kernel) ⟨Nat.le_of_ble_eq_true rfl, Nat.le_of_ble_eq_true rfl⟩) rfl cm0 (cE_0 cy A aK σ) rfl rfl (Nat.le_of_ble_eq_true rfl) ⟨by decide, by decide⟩ dL_deal_5 (k' := 4) (n' := 24) (by decide) (by decide) [] ⟨0, 10, 13, 19⟩ [⟨0, 10, 17, 32⟩, ⟨0, 10, 21, 13⟩] (by rw [hx]; rfl) (fun z hz => (nomatch hz)) (by decide) (by decide) (X.1.2.2.2.2 _ (by decide +kernel)) (va_Nw.use rfl (X.2.2.2.1.1.1.2.2.2.2.1 _ (by decide))) (fun q9 => ?_)
    refine g_astore X dL_deal_13 (by decide) rfl ?_
    refine g_iconst X dL_deal_15 (v := (1 : Int32)) (by decide) ?_
    exact g_iret (Wf := (oL cy A aK qo X8)) (u := (σ', f)) X ⟨rfl, rfl⟩ dL_deal_16
  exact K0
set_option maxHeartbeats 8000000 in
set_option maxRecDepth 100000 in
theorem w_deal_x2 {f : Nat → Int64} {σ σ' : St} {a1 : Int32} {a2 : Int32} (hl : l.stackTraces = false) (h : f_X10_deal a1 a2 σ = some (.inl "java/lang/IllegalArgumentException", σ')) : wI (ZL aK aO aS aV aT) D (cyT cy) l yL_deal wsL_deal ({ frames := 8, cells := 4, slots := 24, locals := 178 } : Room) (oL cy A aK qo X8) [.ref (A 0), .int a1, .int a2, .ref qo] (σ, f) 2 (σ', f) 4 24 := by
  refine wI_of (cc := cL_deal) (maxL := 5) (ret := (some .int)) (hh := [(0, 10, 13, 19), (0, 10, 17, 32), (0, 10, 21, 13)]) (by decide) rfl (Nat.le_of_ble_eq_true rfl) (fun p e s m args below meth c B X hx => ?_)
  have K0 : gG p l e ({ frames := 8, cells := 4, slots := 24, locals := 178 } : Room) s m args below meth c D (cyT cy) B 5 (MQ below (va_Qi (fun (r' : Int32) (u : St × (Nat → Int64)) => r' = 2 ∧ u = (σ', f)) (gAt D (cyT cy) (oL cy A aK qo X8) B) B) args s 4 24 B) (cW cy A aK ((qo, .inl (cy 5, 1, .inr (.inl f))) :: X8) σ) 0 0 0 [(0, .ref (A 0)), (1, .int a1), (2, .int a2), (3, .ref qo)] [] := by
    refine g_aload_n X dL_deal_0 rfl 3 rfl ?_
    refine g_iconst X dL_deal_1 (v := (0 : Int32)) (by decide) ?_
    refine g_aload_n X dL_deal_2 rfl 0 rfl ?_
    refine g_iload_n X dL_deal_3 rfl 1 rfl ?_
    refine g_iload_n X dL_deal_4 rfl 2 rfl ?_
    refine g_xVI_cat (AD := A) (As := [.int a1, .int a2]) (E0 := "java/lang/IllegalArgumentException") (name := "java/lang/IllegalArgumentException") X (ZL_ok _ _ _ _ _) (xI_up (m_X10_deal hl h)) (cwV 2 X.1.2.2.2.2 gL_deal_X10_deal rfl rfl rfl (by decide +kernel) ⟨Nat.le_of_ble_eq_true rfl, Nat.le_of_ble_eq_true rfl⟩) rfl cm0 (cE_0 cy A aK σ) rfl rfl (Nat.le_of_ble_eq_true rfl) ⟨by decide, by decide⟩ dL_deal_5 (k' := 4) (n' := 24) (by decide) (by decide) [⟨0, 10, 13, 19⟩] ⟨0, 10, 17, 32⟩ [⟨0, 10, 21, 13⟩] (by rw [hx]; rfl) (fun z hz => by
      simp only [List.mem_cons, List.not_mem_nil, or_false] at hz
      rcases hz with rfl
      · exact Or.inr ⟨by decide, "java/lang/IndexOutOfBoundsException", X.1.2.2.2.2 _ (by decide +kernel), X.2.2.2.1.2 "java/lang/IllegalArgumentException" (by decide) "java/lang/IndexOutOfBoundsException" (by decide) (by decide)⟩) (by decide) (by decide) (X.1.2.2.2.2 _ (by decide +kernel)) (va_Nw.use rfl (X.2.2.2.1.1.1.2.2.2.2.1 _ (by decide))) (fun q9 => ?_)
    refine g_astore X dL_deal_17 (by decide) rfl ?_
    refine g_iconst X dL_deal_19 (v := (2 : Int32)) (by decide) ?_
    exact g_iret (Wf := (oL cy A aK qo X8)) (u := (σ', f)) X ⟨rfl, rfl⟩ dL_deal_20
  exact K0
set_option maxHeartbeats 8000000 in
set_option maxRecDepth 100000 in
theorem w_deal_x3 {f : Nat → Int64} {σ σ' : St} {a1 : Int32} {a2 : Int32} (hl : l.stackTraces = false) (h : f_X10_deal a1 a2 σ = some (.inl "java/lang/IllegalStateException", σ')) : wI (ZL aK aO aS aV aT) D (cyT cy) l yL_deal wsL_deal ({ frames := 8, cells := 4, slots := 24, locals := 178 } : Room) (oL cy A aK qo X8) [.ref (A 0), .int a1, .int a2, .ref qo] (σ, f) 3 (σ', f) 4 24 := by
  refine wI_of (cc := cL_deal) (maxL := 5) (ret := (some .int)) (hh := [(0, 10, 13, 19), (0, 10, 17, 32), (0, 10, 21, 13)]) (by decide) rfl (Nat.le_of_ble_eq_true rfl) (fun p e s m args below meth c B X hx => ?_)
  have K0 : gG p l e ({ frames := 8, cells := 4, slots := 24, locals := 178 } : Room) s m args below meth c D (cyT cy) B 5 (MQ below (va_Qi (fun (r' : Int32) (u : St × (Nat → Int64)) => r' = 3 ∧ u = (σ', f)) (gAt D (cyT cy) (oL cy A aK qo X8) B) B) args s 4 24 B) (cW cy A aK ((qo, .inl (cy 5, 1, .inr (.inl f))) :: X8) σ) 0 0 0 [(0, .ref (A 0)), (1, .int a1), (2, .int a2), (3, .ref qo)] [] := by
    refine g_aload_n X dL_deal_0 rfl 3 rfl ?_
    refine g_iconst X dL_deal_1 (v := (0 : Int32)) (by decide) ?_
    refine g_aload_n X dL_deal_2 rfl 0 rfl ?_
    refine g_iload_n X dL_deal_3 rfl 1 rfl ?_
    refine g_iload_n X dL_deal_4 rfl 2 rfl ?_
    refine g_xVI_cat (AD := A) (As := [.int a1, .int a2]) (E0 := "java/lang/IllegalStateException") (name := "java/lang/IllegalStateException") X (ZL_ok _ _ _ _ _) (xI_up (m_X10_deal hl h)) (cwV 2 X.1.2.2.2.2 gL_deal_X10_deal rfl rfl rfl (by decide +kernel) ⟨Nat.le_of_ble_eq_true rfl, Nat.le_of_ble_eq_true rfl⟩) rfl cm0 (cE_0 cy A aK σ) rfl rfl (Nat.le_of_ble_eq_true rfl) ⟨by decide, by decide⟩ dL_deal_5 (k' := 4) (n' := 24) (by decide) (by decide) [⟨0, 10, 13, 19⟩, ⟨0, 10, 17, 32⟩] ⟨0, 10, 21, 13⟩ [] (by rw [hx]; rfl) (fun z hz => by
      simp only [List.mem_cons, List.not_mem_nil, or_false] at hz
      rcases hz with rfl | rfl
      · exact Or.inr ⟨by decide, "java/lang/IndexOutOfBoundsException", X.1.2.2.2.2 _ (by decide +kernel), X.2.2.2.1.2 "java/lang/IllegalStateException" (by decide) "java/lang/IndexOutOfBoundsException" (by decide) (by decide)⟩
      · exact Or.inr ⟨by decide, "java/lang/IllegalArgumentException", X.1.2.2.2.2 _ (by decide +kernel), X.2.2.2.1.2 "java/lang/IllegalStateException" (by decide) "java/lang/IllegalArgumentException" (by decide) (by decide)⟩) (by decide) (by decide) (X.1.2.2.2.2 _ (by decide +kernel)) (va_Nw.use rfl (X.2.2.2.1.1.1.2.2.2.2.1 _ (by decide))) (fun q9 => ?_)
    refine g_astore X dL_deal_21 (by decide) rfl ?_
    refine g_iconst X dL_deal_23 (v := (3 : Int32)) (by decide) ?_
    exact g_iret (Wf := (oL cy A aK qo X8)) (u := (σ', f)) X ⟨rfl, rfl⟩ dL_deal_24
  exact K0
set_option maxHeartbeats 8000000 in
set_option maxRecDepth 100000 in
theorem w_turn_ok {f : Nat → Int64} {σ σ' : St} {a1 : Int32} (hl : l.stackTraces = false) {v : Int32} (h : f_X10_turn a1 σ = some (.inr v, σ')) : wI (ZL aK aO aS aV aT) D (cyT cy) l yL_turn wsL_turn ({ frames := 8, cells := 1, slots := 6, locals := 173 } : Room) (oL cy A aK qo X8) [.ref (A 0), .int a1, .ref qo] (σ, f) 0 (σ', (vp_updL f 0 v.toInt64)) 1 6 := by
  refine wI_of (cc := cL_turn) (maxL := 4) (ret := (some .int)) (hh := [(0, 9, 12, 19)]) (by decide) rfl (Nat.le_of_ble_eq_true rfl) (fun p e s m args below meth c B X hx => ?_)
  have K0 : gG p l e ({ frames := 8, cells := 1, slots := 6, locals := 173 } : Room) s m args below meth c D (cyT cy) B 4 (MQ below (va_Qi (fun (r' : Int32) (u : St × (Nat → Int64)) => r' = 0 ∧ u = (σ', (vp_updL f 0 v.toInt64))) (gAt D (cyT cy) (oL cy A aK qo X8) B) B) args s 1 6 B) (cW cy A aK ((qo, .inl (cy 5, 1, .inr (.inl f))) :: X8) σ) 0 0 0 [(0, .ref (A 0)), (1, .int a1), (2, .ref qo)] [] := by
    refine g_aload_n X dL_turn_0 rfl 2 rfl ?_
    refine g_iconst X dL_turn_1 (v := (0 : Int32)) (by decide) ?_
    refine g_aload_n X dL_turn_2 rfl 0 rfl ?_
    refine g_iload_n X dL_turn_3 rfl 1 rfl ?_
    refine g_xVI_ret (AD := A) (As := [.int a1]) X (ZL_ok _ _ _ _ _) (xI_up (m_X10_turn hl h)) (cwV 1 X.1.2.2.2.2 gL_turn_X10_turn rfl rfl rfl (by decide +kernel) ⟨Nat.le_of_ble_eq_true rfl, Nat.le_of_ble_eq_true rfl⟩) rfl cm0 (cE_0 cy A aK σ) rfl rfl (Nat.le_of_ble_eq_true rfl) ⟨by decide, by decide⟩ dL_turn_4 (k' := 1) (n' := 6) (by decide) (by decide) ?_
    refine g_i2l X dL_turn_7 ?_
    refine g_last X 85 5 (cW_85 _ _ _ _ _) rfl (vp_in_nI (n := 0) (N := 1) (by decide) (by decide)) dL_turn_8 (cW_s85 _ _ _ _ _ _) ?_
    refine g_goto X (tgt := 15) dL_turn_9 (by decide) ?_
    refine g_iconst X dL_turn_15 (v := (0 : Int32)) (by decide) ?_
    exact g_iret (Wf := (oL cy A aK qo X8)) (u := (σ', (vp_updL f 0 v.toInt64))) X ⟨rfl, rfl⟩ dL_turn_16
  exact K0
set_option maxHeartbeats 8000000 in
set_option maxRecDepth 100000 in
theorem w_turn_x1 {f : Nat → Int64} {σ σ' : St} {a1 : Int32} (hl : l.stackTraces = false) (h : f_X10_turn a1 σ = some (.inl "java/lang/IndexOutOfBoundsException", σ')) : wI (ZL aK aO aS aV aT) D (cyT cy) l yL_turn wsL_turn ({ frames := 8, cells := 1, slots := 6, locals := 173 } : Room) (oL cy A aK qo X8) [.ref (A 0), .int a1, .ref qo] (σ, f) 1 (σ', f) 1 6 := by
  refine wI_of (cc := cL_turn) (maxL := 4) (ret := (some .int)) (hh := [(0, 9, 12, 19)]) (by decide) rfl (Nat.le_of_ble_eq_true rfl) (fun p e s m args below meth c B X hx => ?_)
  have K0 : gG p l e ({ frames := 8, cells := 1, slots := 6, locals := 173 } : Room) s m args below meth c D (cyT cy) B 4 (MQ below (va_Qi (fun (r' : Int32) (u : St × (Nat → Int64)) => r' = 1 ∧ u = (σ', f)) (gAt D (cyT cy) (oL cy A aK qo X8) B) B) args s 1 6 B) (cW cy A aK ((qo, .inl (cy 5, 1, .inr (.inl f))) :: X8) σ) 0 0 0 [(0, .ref (A 0)), (1, .int a1), (2, .ref qo)] [] := by
    refine g_aload_n X dL_turn_0 rfl 2 rfl ?_
    refine g_iconst X dL_turn_1 (v := (0 : Int32)) (by decide) ?_
    refine g_aload_n X dL_turn_2 rfl 0 rfl ?_
    refine g_iload_n X dL_turn_3 rfl 1 rfl ?_
    refine g_xVI_cat (AD := A) (As := [.int a1]) (E0 := "java/lang/IndexOutOfBoundsException") (name := "java/lang/IndexOutOfBoundsException") X (ZL_ok _ _ _ _ _) (xI_up (m_X10_turn hl h)) (cwV 1 X.1.2.2.2.2 gL_turn_X10_turn rfl rfl rfl (by decide +kernel) ⟨Nat.le_of_ble_eq_true rfl, Nat.le_of_ble_eq_true rfl⟩) rfl cm0 (cE_0 cy A aK σ) rfl rfl (Nat.le_of_ble_eq_true rfl) ⟨by decide, by decide⟩ dL_turn_4 (k' := 1) (n' := 6) (by decide) (by decide) [] ⟨0, 9, 12, 19⟩ [] (by rw [hx]; rfl) (fun z hz => (nomatch hz)) (by decide) (by decide) (X.1.2.2.2.2 _ (by decide +kernel)) (va_Nw.use rfl (X.2.2.2.1.1.1.2.2.2.2.1 _ (by decide))) (fun q9 => ?_)
    refine g_astore_n X dL_turn_12 rfl (by decide) rfl ?_
    refine g_iconst X dL_turn_13 (v := (1 : Int32)) (by decide) ?_
    exact g_iret (Wf := (oL cy A aK qo X8)) (u := (σ', f)) X ⟨rfl, rfl⟩ dL_turn_14
  exact K0
set_option maxHeartbeats 8000000 in
set_option maxRecDepth 100000 in
theorem w_move_ok {f : Nat → Int64} {σ σ' : St} {a1 : Int32} {a2 : Int32} {a3 : Int32} (hl : l.stackTraces = false) {v : Int32} (h : f_X10_move a1 a2 a3 σ = some (.inr v, σ')) : wI (ZL aK aO aS aV aT) D (cyT cy) l yL_move wsL_move ({ frames := 8, cells := 3, slots := 18, locals := 176 } : Room) (oL cy A aK qo X8) [.ref (A 0), .int a1, .int a2, .int a3, .ref qo] (σ, f) 0 (σ', (vp_updL f 0 v.toInt64)) 3 18 := by
  refine wI_of (cc := cL_move) (maxL := 6) (ret := (some .int)) (hh := [(0, 12, 15, 19)]) (by decide) rfl (Nat.le_of_ble_eq_true rfl) (fun p e s m args below meth c B X hx => ?_)
  have K0 : gG p l e ({ frames := 8, cells := 3, slots := 18, locals := 176 } : Room) s m args below meth c D (cyT cy) B 6 (MQ below (va_Qi (fun (r' : Int32) (u : St × (Nat → Int64)) => r' = 0 ∧ u = (σ', (vp_updL f 0 v.toInt64))) (gAt D (cyT cy) (oL cy A aK qo X8) B) B) args s 3 18 B) (cW cy A aK ((qo, .inl (cy 5, 1, .inr (.inl f))) :: X8) σ) 0 0 0 [(0, .ref (A 0)), (1, .int a1), (2, .int a2), (3, .int a3), (4, .ref qo)] [] := by
    refine g_aload X dL_move_0 4 rfl ?_
    refine g_iconst X dL_move_2 (v := (0 : Int32)) (by decide) ?_
    refine g_aload_n X dL_move_3 rfl 0 rfl ?_
    refine g_iload_n X dL_move_4 rfl 1 rfl ?_
    refine g_iload_n X dL_move_5 rfl 2 rfl ?_
    refine g_iload_n X dL_move_6 rfl 3 rfl ?_
    refine g_xVI_ret (AD := A) (As := [.int a1, .int a2, .int a3]) X (ZL_ok _ _ _ _ _) (xI_up (m_X10_move hl h)) (cwV 3 X.1.2.2.2.2 gL_move_X10_move rfl rfl rfl (by decide +kernel) ⟨Nat.le_of_ble_eq_true rfl, Nat.le_of_ble_eq_true rfl⟩) rfl cm0 (cE_0 cy A aK σ) rfl rfl (Nat.le_of_ble_eq_true rfl) ⟨by decide, by decide⟩ dL_move_7 (k' := 3) (n' := 18) (by decide) (by decide) ?_
    refine g_i2l X dL_move_10 ?_
    refine g_last X 85 5 (cW_85 _ _ _ _ _) rfl (vp_in_nI (n := 0) (N := 1) (by decide) (by decide)) dL_move_11 (cW_s85 _ _ _ _ _ _) ?_
    refine g_goto X (tgt := 19) dL_move_12 (by decide) ?_
    refine g_iconst X dL_move_19 (v := (0 : Int32)) (by decide) ?_
    exact g_iret (Wf := (oL cy A aK qo X8)) (u := (σ', (vp_updL f 0 v.toInt64))) X ⟨rfl, rfl⟩ dL_move_20
  exact K0
set_option maxHeartbeats 8000000 in
set_option maxRecDepth 100000 in
theorem w_move_x1 {f : Nat → Int64} {σ σ' : St} {a1 : Int32} {a2 : Int32} {a3 : Int32} (hl : l.stackTraces = false) (h : f_X10_move a1 a2 a3 σ = some (.inl "java/lang/IndexOutOfBoundsException", σ')) : wI (ZL aK aO aS aV aT) D (cyT cy) l yL_move wsL_move ({ frames := 8, cells := 3, slots := 18, locals := 176 } : Room) (oL cy A aK qo X8) [.ref (A 0), .int a1, .int a2, .int a3, .ref qo] (σ, f) 1 (σ', f) 3 18 := by
  refine wI_of (cc := cL_move) (maxL := 6) (ret := (some .int)) (hh := [(0, 12, 15, 19)]) (by decide) rfl (Nat.le_of_ble_eq_true rfl) (fun p e s m args below meth c B X hx => ?_)
  have K0 : gG p l e ({ frames := 8, cells := 3, slots := 18, locals := 176 } : Room) s m args below meth c D (cyT cy) B 6 (MQ below (va_Qi (fun (r' : Int32) (u : St × (Nat → Int64)) => r' = 1 ∧ u = (σ', f)) (gAt D (cyT cy) (oL cy A aK qo X8) B) B) args s 3 18 B) (cW cy A aK ((qo, .inl (cy 5, 1, .inr (.inl f))) :: X8) σ) 0 0 0 [(0, .ref (A 0)), (1, .int a1), (2, .int a2), (3, .int a3), (4, .ref qo)] [] := by
    refine g_aload X dL_move_0 4 rfl ?_
    refine g_iconst X dL_move_2 (v := (0 : Int32)) (by decide) ?_
    refine g_aload_n X dL_move_3 rfl 0 rfl ?_
    refine g_iload_n X dL_move_4 rfl 1 rfl ?_
    refine g_iload_n X dL_move_5 rfl 2 rfl ?_
    refine g_iload_n X dL_move_6 rfl 3 rfl ?_
    refine g_xVI_cat (AD := A) (As := [.int a1, .int a2, .int a3]) (E0 := "java/lang/IndexOutOfBoundsException") (name := "java/lang/IndexOutOfBoundsException") X (ZL_ok _ _ _ _ _) (xI_up (m_X10_move hl h)) (cwV 3 X.1.2.2.2.2 gL_move_X10_move rfl rfl rfl (by decide +kernel) ⟨Nat.le_of_ble_eq_true rfl, Nat.le_of_ble_eq_true rfl⟩) rfl cm0 (cE_0 cy A aK σ) rfl rfl (Nat.le_of_ble_eq_true rfl) ⟨by decide, by decide⟩ dL_move_7 (k' := 3) (n' := 18) (by decide) (by decide) [] ⟨0, 12, 15, 19⟩ [] (by rw [hx]; rfl) (fun z hz => (nomatch hz)) (by decide) (by decide) (X.1.2.2.2.2 _ (by decide +kernel)) (va_Nw.use rfl (X.2.2.2.1.1.1.2.2.2.2.1 _ (by decide))) (fun q9 => ?_)
    refine g_astore X dL_move_15 (by decide) rfl ?_
    refine g_iconst X dL_move_17 (v := (1 : Int32)) (by decide) ?_
    exact g_iret (Wf := (oL cy A aK qo X8)) (u := (σ', f)) X ⟨rfl, rfl⟩ dL_move_18
  exact K0
set_option maxHeartbeats 8000000 in
set_option maxRecDepth 100000 in
theorem w_thin_ok {f : Nat → Int64} {σ σ' : St} {a1 : Int32} {a2 : Int32} (hl : l.stackTraces = false) {v : Int32} (h : f_X10_thin a1 a2 σ = some (.inr v, σ')) : wI (ZL aK aO aS aV aT) D (cyT cy) l yL_thin wsL_thin ({ frames := 8, cells := 1, slots := 6, locals := 178 } : Room) (oL cy A aK qo X8) [.ref (A 0), .int a1, .int a2, .ref qo] (σ, f) 0 (σ', (vp_updL f 0 v.toInt64)) 1 6 := by
  refine wI_of (cc := cL_thin) (maxL := 5) (ret := (some .int)) (hh := [(0, 10, 13, 19)]) (by decide) rfl (Nat.le_of_ble_eq_true rfl) (fun p e s m args below meth c B X hx => ?_)
  have K0 : gG p l e ({ frames := 8, cells := 1, slots := 6, locals := 178 } : Room) s m args below meth c D (cyT cy) B 5 (MQ below (va_Qi (fun (r' : Int32) (u : St × (Nat → Int64)) => r' = 0 ∧ u = (σ', (vp_updL f 0 v.toInt64))) (gAt D (cyT cy) (oL cy A aK qo X8) B) B) args s 1 6 B) (cW cy A aK ((qo, .inl (cy 5, 1, .inr (.inl f))) :: X8) σ) 0 0 0 [(0, .ref (A 0)), (1, .int a1), (2, .int a2), (3, .ref qo)] [] := by
    refine g_aload_n X dL_thin_0 rfl 3 rfl ?_
    refine g_iconst X dL_thin_1 (v := (0 : Int32)) (by decide) ?_
    refine g_aload_n X dL_thin_2 rfl 0 rfl ?_
    refine g_iload_n X dL_thin_3 rfl 1 rfl ?_
    refine g_iload_n X dL_thin_4 rfl 2 rfl ?_
    refine g_xVI_ret (AD := A) (As := [.int a1, .int a2]) X (ZL_ok _ _ _ _ _) (xI_up (m_X10_thin hl h)) (cwV 2 X.1.2.2.2.2 gL_thin_X10_thin rfl rfl rfl (by decide +kernel) ⟨Nat.le_of_ble_eq_true rfl, Nat.le_of_ble_eq_true rfl⟩) rfl cm0 (cE_0 cy A aK σ) rfl rfl (Nat.le_of_ble_eq_true rfl) ⟨by decide, by decide⟩ dL_thin_5 (k' := 1) (n' := 6) (by decide) (by decide) ?_
    refine g_i2l X dL_thin_8 ?_
    refine g_last X 85 5 (cW_85 _ _ _ _ _) rfl (vp_in_nI (n := 0) (N := 1) (by decide) (by decide)) dL_thin_9 (cW_s85 _ _ _ _ _ _) ?_
    refine g_goto X (tgt := 17) dL_thin_10 (by decide) ?_
    refine g_iconst X dL_thin_17 (v := (0 : Int32)) (by decide) ?_
    exact g_iret (Wf := (oL cy A aK qo X8)) (u := (σ', (vp_updL f 0 v.toInt64))) X ⟨rfl, rfl⟩ dL_thin_18
  exact K0
set_option maxHeartbeats 8000000 in
set_option maxRecDepth 100000 in
theorem w_thin_x1 {f : Nat → Int64} {σ σ' : St} {a1 : Int32} {a2 : Int32} (hl : l.stackTraces = false) (h : f_X10_thin a1 a2 σ = some (.inl "java/lang/IndexOutOfBoundsException", σ')) : wI (ZL aK aO aS aV aT) D (cyT cy) l yL_thin wsL_thin ({ frames := 8, cells := 1, slots := 6, locals := 178 } : Room) (oL cy A aK qo X8) [.ref (A 0), .int a1, .int a2, .ref qo] (σ, f) 1 (σ', f) 1 6 := by
  refine wI_of (cc := cL_thin) (maxL := 5) (ret := (some .int)) (hh := [(0, 10, 13, 19)]) (by decide) rfl (Nat.le_of_ble_eq_true rfl) (fun p e s m args below meth c B X hx => ?_)
  have K0 : gG p l e ({ frames := 8, cells := 1, slots := 6, locals := 178 } : Room) s m args below meth c D (cyT cy) B 5 (MQ below (va_Qi (fun (r' : Int32) (u : St × (Nat → Int64)) => r' = 1 ∧ u = (σ', f)) (gAt D (cyT cy) (oL cy A aK qo X8) B) B) args s 1 6 B) (cW cy A aK ((qo, .inl (cy 5, 1, .inr (.inl f))) :: X8) σ) 0 0 0 [(0, .ref (A 0)), (1, .int a1), (2, .int a2), (3, .ref qo)] [] := by
    refine g_aload_n X dL_thin_0 rfl 3 rfl ?_
    refine g_iconst X dL_thin_1 (v := (0 : Int32)) (by decide) ?_
    refine g_aload_n X dL_thin_2 rfl 0 rfl ?_
    refine g_iload_n X dL_thin_3 rfl 1 rfl ?_
    refine g_iload_n X dL_thin_4 rfl 2 rfl ?_
    refine g_xVI_cat (AD := A) (As := [.int a1, .int a2]) (E0 := "java/lang/IndexOutOfBoundsException") (name := "java/lang/IndexOutOfBoundsException") X (ZL_ok _ _ _ _ _) (xI_up (m_X10_thin hl h)) (cwV 2 X.1.2.2.2.2 gL_thin_X10_thin rfl rfl rfl (by decide +kernel) ⟨Nat.le_of_ble_eq_true rfl, Nat.le_of_ble_eq_true rfl⟩) rfl cm0 (cE_0 cy A aK σ) rfl rfl (Nat.le_of_ble_eq_true rfl) ⟨by decide, by decide⟩ dL_thin_5 (k' := 1) (n' := 6) (by decide) (by decide) [] ⟨0, 10, 13, 19⟩ [] (by rw [hx]; rfl) (fun z hz => (nomatch hz)) (by decide) (by decide) (X.1.2.2.2.2 _ (by decide +kernel)) (va_Nw.use rfl (X.2.2.2.1.1.1.2.2.2.2.1 _ (by decide))) (fun q9 => ?_)
    refine g_astore X dL_thin_13 (by decide) rfl ?_
    refine g_iconst X dL_thin_15 (v := (1 : Int32)) (by decide) ?_
    exact g_iret (Wf := (oL cy A aK qo X8)) (u := (σ', f)) X ⟨rfl, rfl⟩ dL_thin_16
  exact K0
set_option maxHeartbeats 8000000 in
set_option maxRecDepth 100000 in
theorem w_single_ok {f : Nat → Int64} {σ σ' : St} {a1 : Int32} (hl : l.stackTraces = false) {v : Int32} (h : f_X10_single a1 σ = some (.inr v, σ')) : wI (ZL aK aO aS aV aT) D (cyT cy) l yL_single wsL_single ({ frames := 8, cells := 1, slots := 6, locals := 177 } : Room) (oL cy A aK qo X8) [.ref (A 0), .int a1, .ref qo] (σ, f) 0 (σ', (vp_updL f 0 v.toInt64)) 1 6 := by
  refine wI_of (cc := cL_single) (maxL := 4) (ret := (some .int)) (hh := [(0, 9, 12, 19)]) (by decide) rfl (Nat.le_of_ble_eq_true rfl) (fun p e s m args below meth c B X hx => ?_)
  have K0 : gG p l e ({ frames := 8, cells := 1, slots := 6, locals := 177 } : Room) s m args below meth c D (cyT cy) B 4 (MQ below (va_Qi (fun (r' : Int32) (u : St × (Nat → Int64)) => r' = 0 ∧ u = (σ', (vp_updL f 0 v.toInt64))) (gAt D (cyT cy) (oL cy A aK qo X8) B) B) args s 1 6 B) (cW cy A aK ((qo, .inl (cy 5, 1, .inr (.inl f))) :: X8) σ) 0 0 0 [(0, .ref (A 0)), (1, .int a1), (2, .ref qo)] [] := by
    refine g_aload_n X dL_single_0 rfl 2 rfl ?_
    refine g_iconst X dL_single_1 (v := (0 : Int32)) (by decide) ?_
    refine g_aload_n X dL_single_2 rfl 0 rfl ?_
    refine g_iload_n X dL_single_3 rfl 1 rfl ?_
    refine g_xVI_ret (AD := A) (As := [.int a1]) X (ZL_ok _ _ _ _ _) (xI_up (m_X10_single hl h)) (cwV 1 X.1.2.2.2.2 gL_single_X10_single rfl rfl rfl (by decide +kernel) ⟨Nat.le_of_ble_eq_true rfl, Nat.le_of_ble_eq_true rfl⟩) rfl cm0 (cE_0 cy A aK σ) rfl rfl (Nat.le_of_ble_eq_true rfl) ⟨by decide, by decide⟩ dL_single_4 (k' := 1) (n' := 6) (by decide) (by decide) ?_
    refine g_i2l X dL_single_7 ?_
    refine g_last X 85 5 (cW_85 _ _ _ _ _) rfl (vp_in_nI (n := 0) (N := 1) (by decide) (by decide)) dL_single_8 (cW_s85 _ _ _ _ _ _) ?_
    refine g_goto X (tgt := 15) dL_single_9 (by decide) ?_
    refine g_iconst X dL_single_15 (v := (0 : Int32)) (by decide) ?_
    exact g_iret (Wf := (oL cy A aK qo X8)) (u := (σ', (vp_updL f 0 v.toInt64))) X ⟨rfl, rfl⟩ dL_single_16
  exact K0
set_option maxHeartbeats 8000000 in
set_option maxRecDepth 100000 in
theorem w_single_x1 {f : Nat → Int64} {σ σ' : St} {a1 : Int32} (hl : l.stackTraces = false) (h : f_X10_single a1 σ = some (.inl "java/lang/IndexOutOfBoundsException", σ')) : wI (ZL aK aO aS aV aT) D (cyT cy) l yL_single wsL_single ({ frames := 8, cells := 1, slots := 6, locals := 177 } : Room) (oL cy A aK qo X8) [.ref (A 0), .int a1, .ref qo] (σ, f) 1 (σ', f) 1 6 := by
  refine wI_of (cc := cL_single) (maxL := 4) (ret := (some .int)) (hh := [(0, 9, 12, 19)]) (by decide) rfl (Nat.le_of_ble_eq_true rfl) (fun p e s m args below meth c B X hx => ?_)
  have K0 : gG p l e ({ frames := 8, cells := 1, slots := 6, locals := 177 } : Room) s m args below meth c D (cyT cy) B 4 (MQ below (va_Qi (fun (r' : Int32) (u : St × (Nat → Int64)) => r' = 1 ∧ u = (σ', f)) (gAt D (cyT cy) (oL cy A aK qo X8) B) B) args s 1 6 B) (cW cy A aK ((qo, .inl (cy 5, 1, .inr (.inl f))) :: X8) σ) 0 0 0 [(0, .ref (A 0)), (1, .int a1), (2, .ref qo)] [] := by
    refine g_aload_n X dL_single_0 rfl 2 rfl ?_
    refine g_iconst X dL_single_1 (v := (0 : Int32)) (by decide) ?_
    refine g_aload_n X dL_single_2 rfl 0 rfl ?_
    refine g_iload_n X dL_single_3 rfl 1 rfl ?_
    refine g_xVI_cat (AD := A) (As := [.int a1]) (E0 := "java/lang/IndexOutOfBoundsException") (name := "java/lang/IndexOutOfBoundsException") X (ZL_ok _ _ _ _ _) (xI_up (m_X10_single hl h)) (cwV 1 X.1.2.2.2.2 gL_single_X10_single rfl rfl rfl (by decide +kernel) ⟨Nat.le_of_ble_eq_true rfl, Nat.le_of_ble_eq_true rfl⟩) rfl cm0 (cE_0 cy A aK σ) rfl rfl (Nat.le_of_ble_eq_true rfl) ⟨by decide, by decide⟩ dL_single_4 (k' := 1) (n' := 6) (by decide) (by decide) [] ⟨0, 9, 12, 19⟩ [] (by rw [hx]; rfl) (fun z hz => (nomatch hz)) (by decide) (by decide) (X.1.2.2.2.2 _ (by decide +kernel)) (va_Nw.use rfl (X.2.2.2.1.1.1.2.2.2.2.1 _ (by decide))) (fun q9 => ?_)
    refine g_astore_n X dL_single_12 rfl (by decide) rfl ?_
    refine g_iconst X dL_single_13 (v := (1 : Int32)) (by decide) ?_
    exact g_iret (Wf := (oL cy A aK qo X8)) (u := (σ', f)) X ⟨rfl, rfl⟩ dL_single_14
  exact K0
set_option maxHeartbeats 8000000 in
set_option maxRecDepth 100000 in
theorem w_empty_ok {f : Nat → Int64} {σ σ' : St} {a1 : Int32} (hl : l.stackTraces = false) {v : Int32} (h : f_X10_empty a1 σ = some (.inr v, σ')) : wI (ZL aK aO aS aV aT) D (cyT cy) l yL_empty wsL_empty ({ frames := 8, cells := 1, slots := 6, locals := 174 } : Room) (oL cy A aK qo X8) [.ref (A 0), .int a1, .ref qo] (σ, f) 0 (σ', (vp_updL f 0 v.toInt64)) 1 6 := by
  refine wI_of (cc := cL_empty) (maxL := 4) (ret := (some .int)) (hh := [(0, 9, 12, 19)]) (by decide) rfl (Nat.le_of_ble_eq_true rfl) (fun p e s m args below meth c B X hx => ?_)
  have K0 : gG p l e ({ frames := 8, cells := 1, slots := 6, locals := 174 } : Room) s m args below meth c D (cyT cy) B 4 (MQ below (va_Qi (fun (r' : Int32) (u : St × (Nat → Int64)) => r' = 0 ∧ u = (σ', (vp_updL f 0 v.toInt64))) (gAt D (cyT cy) (oL cy A aK qo X8) B) B) args s 1 6 B) (cW cy A aK ((qo, .inl (cy 5, 1, .inr (.inl f))) :: X8) σ) 0 0 0 [(0, .ref (A 0)), (1, .int a1), (2, .ref qo)] [] := by
    refine g_aload_n X dL_empty_0 rfl 2 rfl ?_
    refine g_iconst X dL_empty_1 (v := (0 : Int32)) (by decide) ?_
    refine g_aload_n X dL_empty_2 rfl 0 rfl ?_
    refine g_iload_n X dL_empty_3 rfl 1 rfl ?_
    refine g_xVI_ret (AD := A) (As := [.int a1]) X (ZL_ok _ _ _ _ _) (xI_up (m_X10_empty hl h)) (cwV 1 X.1.2.2.2.2 gL_empty_X10_empty rfl rfl rfl (by decide +kernel) ⟨Nat.le_of_ble_eq_true rfl, Nat.le_of_ble_eq_true rfl⟩) rfl cm0 (cE_0 cy A aK σ) rfl rfl (Nat.le_of_ble_eq_true rfl) ⟨by decide, by decide⟩ dL_empty_4 (k' := 1) (n' := 6) (by decide) (by decide) ?_
    refine g_i2l X dL_empty_7 ?_
    refine g_last X 85 5 (cW_85 _ _ _ _ _) rfl (vp_in_nI (n := 0) (N := 1) (by decide) (by decide)) dL_empty_8 (cW_s85 _ _ _ _ _ _) ?_
    refine g_goto X (tgt := 15) dL_empty_9 (by decide) ?_
    refine g_iconst X dL_empty_15 (v := (0 : Int32)) (by decide) ?_
    exact g_iret (Wf := (oL cy A aK qo X8)) (u := (σ', (vp_updL f 0 v.toInt64))) X ⟨rfl, rfl⟩ dL_empty_16
  exact K0
set_option maxHeartbeats 8000000 in
set_option maxRecDepth 100000 in
theorem w_empty_x1 {f : Nat → Int64} {σ σ' : St} {a1 : Int32} (hl : l.stackTraces = false) (h : f_X10_empty a1 σ = some (.inl "java/lang/IndexOutOfBoundsException", σ')) : wI (ZL aK aO aS aV aT) D (cyT cy) l yL_empty wsL_empty ({ frames := 8, cells := 1, slots := 6, locals := 174 } : Room) (oL cy A aK qo X8) [.ref (A 0), .int a1, .ref qo] (σ, f) 1 (σ', f) 1 6 := by
  refine wI_of (cc := cL_empty) (maxL := 4) (ret := (some .int)) (hh := [(0, 9, 12, 19)]) (by decide) rfl (Nat.le_of_ble_eq_true rfl) (fun p e s m args below meth c B X hx => ?_)
  have K0 : gG p l e ({ frames := 8, cells := 1, slots := 6, locals := 174 } : Room) s m args below meth c D (cyT cy) B 4 (MQ below (va_Qi (fun (r' : Int32) (u : St × (Nat → Int64)) => r' = 1 ∧ u = (σ', f)) (gAt D (cyT cy) (oL cy A aK qo X8) B) B) args s 1 6 B) (cW cy A aK ((qo, .inl (cy 5, 1, .inr (.inl f))) :: X8) σ) 0 0 0 [(0, .ref (A 0)), (1, .int a1), (2, .ref qo)] [] := by
    refine g_aload_n X dL_empty_0 rfl 2 rfl ?_
    refine g_iconst X dL_empty_1 (v := (0 : Int32)) (by decide) ?_
    refine g_aload_n X dL_empty_2 rfl 0 rfl ?_
    refine g_iload_n X dL_empty_3 rfl 1 rfl ?_
    refine g_xVI_cat (AD := A) (As := [.int a1]) (E0 := "java/lang/IndexOutOfBoundsException") (name := "java/lang/IndexOutOfBoundsException") X (ZL_ok _ _ _ _ _) (xI_up (m_X10_empty hl h)) (cwV 1 X.1.2.2.2.2 gL_empty_X10_empty rfl rfl rfl (by decide +kernel) ⟨Nat.le_of_ble_eq_true rfl, Nat.le_of_ble_eq_true rfl⟩) rfl cm0 (cE_0 cy A aK σ) rfl rfl (Nat.le_of_ble_eq_true rfl) ⟨by decide, by decide⟩ dL_empty_4 (k' := 1) (n' := 6) (by decide) (by decide) [] ⟨0, 9, 12, 19⟩ [] (by rw [hx]; rfl) (fun z hz => (nomatch hz)) (by decide) (by decide) (X.1.2.2.2.2 _ (by decide +kernel)) (va_Nw.use rfl (X.2.2.2.1.1.1.2.2.2.2.1 _ (by decide))) (fun q9 => ?_)
    refine g_astore_n X dL_empty_12 rfl (by decide) rfl ?_
    refine g_iconst X dL_empty_13 (v := (1 : Int32)) (by decide) ?_
    exact g_iret (Wf := (oL cy A aK qo X8)) (u := (σ', f)) X ⟨rfl, rfl⟩ dL_empty_14
  exact K0
set_option maxHeartbeats 8000000 in
set_option maxRecDepth 100000 in
theorem w_keep_ok {f : Nat → Int64} {σ σ' : St} {a1 : Int32} (hl : l.stackTraces = false) {v : Int32} (h : f_X10_keep a1 σ = some (.inr v, σ')) : wI (ZL aK aO aS aV aT) D (cyT cy) l yL_keep wsL_keep ({ frames := 8, cells := 1, slots := 6, locals := 173 } : Room) (oL cy A aK qo X8) [.ref (A 0), .int a1, .ref qo] (σ, f) 0 (σ', (vp_updL f 0 v.toInt64)) 1 6 := by
  refine wI_of (cc := cL_keep) (maxL := 4) (ret := (some .int)) (hh := [(0, 9, 12, 19)]) (by decide) rfl (Nat.le_of_ble_eq_true rfl) (fun p e s m args below meth c B X hx => ?_)
  have K0 : gG p l e ({ frames := 8, cells := 1, slots := 6, locals := 173 } : Room) s m args below meth c D (cyT cy) B 4 (MQ below (va_Qi (fun (r' : Int32) (u : St × (Nat → Int64)) => r' = 0 ∧ u = (σ', (vp_updL f 0 v.toInt64))) (gAt D (cyT cy) (oL cy A aK qo X8) B) B) args s 1 6 B) (cW cy A aK ((qo, .inl (cy 5, 1, .inr (.inl f))) :: X8) σ) 0 0 0 [(0, .ref (A 0)), (1, .int a1), (2, .ref qo)] [] := by
    refine g_aload_n X dL_keep_0 rfl 2 rfl ?_
    refine g_iconst X dL_keep_1 (v := (0 : Int32)) (by decide) ?_
    refine g_aload_n X dL_keep_2 rfl 0 rfl ?_
    refine g_iload_n X dL_keep_3 rfl 1 rfl ?_
    refine g_xVI_ret (AD := A) (As := [.int a1]) X (ZL_ok _ _ _ _ _) (xI_up (m_X10_keep hl h)) (cwV 1 X.1.2.2.2.2 gL_keep_X10_keep rfl rfl rfl (by decide +kernel) ⟨Nat.le_of_ble_eq_true rfl, Nat.le_of_ble_eq_true rfl⟩) rfl cm0 (cE_0 cy A aK σ) rfl rfl (Nat.le_of_ble_eq_true rfl) ⟨by decide, by decide⟩ dL_keep_4 (k' := 1) (n' := 6) (by decide) (by decide) ?_
    refine g_i2l X dL_keep_7 ?_
    refine g_last X 85 5 (cW_85 _ _ _ _ _) rfl (vp_in_nI (n := 0) (N := 1) (by decide) (by decide)) dL_keep_8 (cW_s85 _ _ _ _ _ _) ?_
    refine g_goto X (tgt := 15) dL_keep_9 (by decide) ?_
    refine g_iconst X dL_keep_15 (v := (0 : Int32)) (by decide) ?_
    exact g_iret (Wf := (oL cy A aK qo X8)) (u := (σ', (vp_updL f 0 v.toInt64))) X ⟨rfl, rfl⟩ dL_keep_16
  exact K0
set_option maxHeartbeats 8000000 in
set_option maxRecDepth 100000 in
theorem w_keep_x1 {f : Nat → Int64} {σ σ' : St} {a1 : Int32} (hl : l.stackTraces = false) (h : f_X10_keep a1 σ = some (.inl "java/lang/IndexOutOfBoundsException", σ')) : wI (ZL aK aO aS aV aT) D (cyT cy) l yL_keep wsL_keep ({ frames := 8, cells := 1, slots := 6, locals := 173 } : Room) (oL cy A aK qo X8) [.ref (A 0), .int a1, .ref qo] (σ, f) 1 (σ', f) 1 6 := by
  refine wI_of (cc := cL_keep) (maxL := 4) (ret := (some .int)) (hh := [(0, 9, 12, 19)]) (by decide) rfl (Nat.le_of_ble_eq_true rfl) (fun p e s m args below meth c B X hx => ?_)
  have K0 : gG p l e ({ frames := 8, cells := 1, slots := 6, locals := 173 } : Room) s m args below meth c D (cyT cy) B 4 (MQ below (va_Qi (fun (r' : Int32) (u : St × (Nat → Int64)) => r' = 1 ∧ u = (σ', f)) (gAt D (cyT cy) (oL cy A aK qo X8) B) B) args s 1 6 B) (cW cy A aK ((qo, .inl (cy 5, 1, .inr (.inl f))) :: X8) σ) 0 0 0 [(0, .ref (A 0)), (1, .int a1), (2, .ref qo)] [] := by
    refine g_aload_n X dL_keep_0 rfl 2 rfl ?_
    refine g_iconst X dL_keep_1 (v := (0 : Int32)) (by decide) ?_
    refine g_aload_n X dL_keep_2 rfl 0 rfl ?_
    refine g_iload_n X dL_keep_3 rfl 1 rfl ?_
    refine g_xVI_cat (AD := A) (As := [.int a1]) (E0 := "java/lang/IndexOutOfBoundsException") (name := "java/lang/IndexOutOfBoundsException") X (ZL_ok _ _ _ _ _) (xI_up (m_X10_keep hl h)) (cwV 1 X.1.2.2.2.2 gL_keep_X10_keep rfl rfl rfl (by decide +kernel) ⟨Nat.le_of_ble_eq_true rfl, Nat.le_of_ble_eq_true rfl⟩) rfl cm0 (cE_0 cy A aK σ) rfl rfl (Nat.le_of_ble_eq_true rfl) ⟨by decide, by decide⟩ dL_keep_4 (k' := 1) (n' := 6) (by decide) (by decide) [] ⟨0, 9, 12, 19⟩ [] (by rw [hx]; rfl) (fun z hz => (nomatch hz)) (by decide) (by decide) (X.1.2.2.2.2 _ (by decide +kernel)) (va_Nw.use rfl (X.2.2.2.1.1.1.2.2.2.2.1 _ (by decide))) (fun q9 => ?_)
    refine g_astore_n X dL_keep_12 rfl (by decide) rfl ?_
    refine g_iconst X dL_keep_13 (v := (1 : Int32)) (by decide) ?_
    exact g_iret (Wf := (oL cy A aK qo X8)) (u := (σ', f)) X ⟨rfl, rfl⟩ dL_keep_14
  exact K0
end WR
