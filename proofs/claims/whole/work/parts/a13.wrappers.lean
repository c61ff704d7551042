section WR
variable {cy : Nat → ClassId} {A aK aO aS aV aT : Nat → Nat} {D : va_G} {l : Launch} {qo qo9 : Nat} {e9 : va_E} {X8 : va_W}
set_option maxHeartbeats 8000000 in
set_option maxRecDepth 100000 in
theorem w_wrongPairs_ok {f : Nat → Int64} {σ σ' : St} {a1 : Int32} (hl : l.stackTraces = false) {v : Int32} (h : f_X10_wrongPairs a1 σ = some (.inr v, σ')) : wI (ZL aK aO aS aV aT) D (cyT cy) l yL_wrongPairs wsL_wrongPairs ({ frames := 8, cells := 1, slots := 6, locals := 172 } : Room) (oL cy A aK qo X8) [.ref (A 0), .int a1, .ref qo] (σ, f) 0 (σ', (vp_updL f 0 v.toInt64)) 1 6 := by
  refine wI_of (cc := cL_wrongPairs) (maxL := 4) (ret := (some .int)) (hh := [(0, 9, 12, 19)]) (by decide) rfl (Nat.le_of_ble_eq_true rfl) (fun p e s m args below meth c B X hx => ?_)
  have K0 : gG p l e ({ frames := 8, cells := 1, slots := 6, locals := 172 } : Room) s m args below meth c D (cyT cy) B 4 (MQ below (va_Qi (fun (r' : Int32) (u : St × (Nat → Int64)) => r' = 0 ∧ u = (σ', (vp_updL f 0 v.toInt64))) (gAt D (cyT cy) (oL cy A aK qo X8) B) B) args s 1 6 B) (cW cy A aK ((qo, .inl (cy 5, 1, .inr (.inl f))) :: X8) σ) 0 0 0 [(0, .ref (A 0)), (1, .int a1), (2, .ref qo)] [] := by
    refine g_aload_n X dL_wrongPairs_0 rfl 2 rfl ?_
    refine g_iconst X dL_wrongPairs_1 (v := (0 : Int32)) (by decide) ?_
    refine g_aload_n X dL_wrongPairs_2 rfl 0 rfl ?_
    refine g_iload_n X dL_wrongPairs_3 rfl 1 rfl ?_
    refine g_xVI_ret (AD := A) (As := [.int a1]) X (ZL_ok _ _ _ _ _) (xI_up (m_X10_wrongPairs hl h)) (cwV 1 X.1.2.2.2.2 gL_wrongPairs_X10_wrongPairs rfl rfl rfl (by decide +kernel) ⟨Nat.le_of_ble_eq_true rfl, Nat.le_of_ble_eq_true rfl⟩) rfl cm0 (cE_0 cy A aK σ) rfl rfl (Nat.le_of_ble_eq_true rfl) ⟨by decide, by decide⟩ dL_wrongPairs_4 (k' := 1) (n' := 6) (by decide) (by decide) ?_
    refine g_i2l X dL_wrongPairs_7 ?_
    refine g_last X 85 5 (cW_85 _ _ _ _ _) rfl (vp_in_nI (n := 0) (N := 1) (by decide) (by decide)) dL_wrongPairs_8 (cW_s85 _ _ _ _ _ _) ?_
    refine g_goto X (tgt := 15) dL_wrongPairs_9 (by decide) ?_
    refine g_iconst X dL_wrongPairs_15 (v := (0 : Int32)) (by decide) ?_
    exact g_iret (Wf := (oL cy A aK qo X8)) (u := (σ', (vp_updL f 0 v.toInt64))) X ⟨rfl, rfl⟩ dL_wrongPairs_16
  exact K0
set_option maxHeartbeats 8000000 in
set_option maxRecDepth 100000 in
theorem w_wrongPairs_x1 {f : Nat → Int64} {σ σ' : St} {a1 : Int32} (hl : l.stackTraces = false) (h : f_X10_wrongPairs a1 σ = some (.inl "java/lang/IndexOutOfBoundsException", σ')) : wI (ZL aK aO aS aV aT) D (cyT cy) l yL_wrongPairs wsL_wrongPairs ({ frames := 8, cells := 1, slots := 6, locals := 172 } : Room) (oL cy A aK qo X8) [.ref (A 0), .int a1, .ref qo] (σ, f) 1 (σ', f) 1 6 := by
  refine wI_of (cc := cL_wrongPairs) (maxL := 4) (ret := (some .int)) (hh := [(0, 9, 12, 19)]) (by decide) rfl (Nat.le_of_ble_eq_true rfl) (fun p e s m args below meth c B X hx => ?_)
  have K0 : gG p l e ({ frames := 8, cells := 1, slots := 6, locals := 172 } : Room) s m args below meth c D (cyT cy) B 4 (MQ below (va_Qi (fun (r' : Int32) (u : St × (Nat → Int64)) => r' = 1 ∧ u = (σ', f)) (gAt D (cyT cy) (oL cy A aK qo X8) B) B) args s 1 6 B) (cW cy A aK ((qo, .inl (cy 5, 1, .inr (.inl f))) :: X8) σ) 0 0 0 [(0, .ref (A 0)), (1, .int a1), (2, .ref qo)] [] := by
    refine g_aload_n X dL_wrongPairs_0 rfl 2 rfl ?_
    refine g_iconst X dL_wrongPairs_1 (v := (0 : Int32)) (by decide) ?_
    refine g_aload_n X dL_wrongPairs_2 rfl 0 rfl ?_
    refine g_iload_n X dL_wrongPairs_3 rfl 1 rfl ?_
    refine g_xVI_cat (AD := A) (As := [.int a1]) (E0 := "java/lang/IndexOutOfBoundsException") (name := "java/lang/IndexOutOfBoundsException") X (ZL_ok _ _ _ _ _) (xI_up (m_X10_wrongPairs hl h)) (cwV 1 X.1.2.2.2.2 gL_wrongPairs_X10_wrongPairs rfl rfl rfl (by decide +kernel) ⟨Nat.le_of_ble_eq_true rfl, Nat.le_of_ble_eq_true rfl⟩) rfl cm0 (cE_0 cy A aK σ) rfl rfl (Nat.le_of_ble_eq_true rfl) ⟨by decide, by decide⟩ dL_wrongPairs_4 (k' := 1) (n' := 6) (by decide) (by decide) [] ⟨0, 9, 12, 19⟩ [] (by rw [hx]; rfl) (fun z hz => (nomatch hz)) (by decide) (by decide) (X.1.2.2.2.2 _ (by decide +kernel)) (va_Nw.use rfl (X.2.2.2.1.1.1.2.2.2.2.1 _ (by decide))) (fun q9 => ?_)
    refine g_astore_n X dL_wrongPairs_12 rfl (by decide) rfl ?_
    refine g_iconst X dL_wrongPairs_13 (v := (1 : Int32)) (by decide) ?_
    exact g_iret (Wf := (oL cy A aK qo X8)) (u := (σ', f)) X ⟨rfl, rfl⟩ dL_wrongPairs_14
  exact K0
set_option maxHeartbeats 8000000 in
set_option maxRecDepth 100000 in
theorem w_unlike_ok {f : Nat → Int64} {σ σ' : St} {a1 : Int32} (hl : l.stackTraces = false) {v : Int32} (h : f_X10_unlike a1 σ = some (.inr v, σ')) : wI (ZL aK aO aS aV aT) D (cyT cy) l yL_unlike wsL_unlike ({ frames := 8, cells := 1, slots := 6, locals := 175 } : Room) (oL cy A aK qo X8) [.ref (A 0), .int a1, .ref qo] (σ, f) 0 (σ', (vp_updL f 0 v.toInt64)) 1 6 := by
  refine wI_of (cc := cL_unlike) (maxL := 4) (ret := (some .int)) (hh := [(0, 9, 12, 19)]) (by decide) rfl (Nat.le_of_ble_eq_true rfl) (fun p e s m args below meth c B X hx => ?_)
  have K0 : gG p l e ({ frames := 8, cells := 1, slots := 6, locals := 175 } : Room) s m args below meth c D (cyT cy) B 4 (MQ below (va_Qi (fun (r' : Int32) (u : St × (Nat → Int64)) => r' = 0 ∧ u = (σ', (vp_updL f 0 v.toInt64))) (gAt D (cyT cy) (oL cy A aK qo X8) B) B) args s 1 6 B) (cW cy A aK ((qo, .inl (cy 5, 1, .inr (.inl f))) :: X8) σ) 0 0 0 [(0, .ref (A 0)), (1, .int a1), (2, .ref qo)] [] := by
    refine g_aload_n X dL_unlike_0 rfl 2 rfl ?_
    refine g_iconst X dL_unlike_1 (v := (0 : Int32)) (by decide) ?_
    refine g_aload_n X dL_unlike_2 rfl 0 rfl ?_
    refine g_iload_n X dL_unlike_3 rfl 1 rfl ?_
    refine g_xVI_ret (AD := A) (As := [.int a1]) X (ZL_ok _ _ _ _ _) (xI_up (m_X10_unlike hl h)) (cwV 1 X.1.2.2.2.2 gL_unlike_X10_unlike rfl rfl rfl (by decide +kernel) ⟨Nat.le_of_ble_eq_true rfl, Nat.le_of_ble_eq_true rfl⟩) rfl cm0 (cE_0 cy A aK σ) rfl rfl (Nat.le_of_ble_eq_true rfl) ⟨by decide, by decide⟩ dL_unlike_4 (k' := 1) (n' := 6) (by decide) (by decide) ?_
    refine g_i2l X dL_unlike_7 ?_
    refine g_last X 85 5 (cW_85 _ _ _ _ _) rfl (vp_in_nI (n := 0) (N := 1) (by decide) (by decide)) dL_unlike_8 (cW_s85 _ _ _ _ _ _) ?_
    refine g_goto X (tgt := 15) dL_unlike_9 (by decide) ?_
    refine g_iconst X dL_unlike_15 (v := (0 : Int32)) (by decide) ?_
    exact g_iret (Wf := (oL cy A aK qo X8)) (u := (σ', (vp_updL f 0 v.toInt64))) X ⟨rfl, rfl⟩ dL_unlike_16
  exact K0
set_option maxHeartbeats 8000000 in
set_option maxRecDepth 100000 in
theorem w_unlike_x1 {f : Nat → Int64} {σ σ' : St} {a1 : Int32} (hl : l.stackTraces = false) (h : f_X10_unlike a1 σ = some (.inl "java/lang/IndexOutOfBoundsException", σ')) : wI (ZL aK aO aS aV aT) D (cyT cy) l yL_unlike wsL_unlike ({ frames := 8, cells := 1, slots := 6, locals := 175 } : Room) (oL cy A aK qo X8) [.ref (A 0), .int a1, .ref qo] (σ, f) 1 (σ', f) 1 6 := by
  refine wI_of (cc := cL_unlike) (maxL := 4) (ret := (some .int)) (hh := [(0, 9, 12, 19)]) (by decide) rfl (Nat.le_of_ble_eq_true rfl) (fun p e s m args below meth c B X hx => ?_)
  have K0 : gG p l e ({ frames := 8, cells := 1, slots := 6, locals := 175 } : Room) s m args below meth c D (cyT cy) B 4 (MQ below (va_Qi (fun (r' : Int32) (u : St × (Nat → Int64)) => r' = 1 ∧ u = (σ', f)) (gAt D (cyT cy) (oL cy A aK qo X8) B) B) args s 1 6 B) (cW cy A aK ((qo, .inl (cy 5, 1, .inr (.inl f))) :: X8) σ) 0 0 0 [(0, .ref (A 0)), (1, .int a1), (2, .ref qo)] [] := by
    refine g_aload_n X dL_unlike_0 rfl 2 rfl ?_
    refine g_iconst X dL_unlike_1 (v := (0 : Int32)) (by decide) ?_
    refine g_aload_n X dL_unlike_2 rfl 0 rfl ?_
    refine g_iload_n X dL_unlike_3 rfl 1 rfl ?_
    refine g_xVI_cat (AD := A) (As := [.int a1]) (E0 := "java/lang/IndexOutOfBoundsException") (name := "java/lang/IndexOutOfBoundsException") X (ZL_ok _ _ _ _ _) (xI_up (m_X10_unlike hl h)) (cwV 1 X.1.2.2.2.2 gL_unlike_X10_unlike rfl rfl rfl (by decide +kernel) ⟨Nat.le_of_ble_eq_true rfl, Nat.le_of_ble_eq_true rfl⟩) rfl cm0 (cE_0 cy A aK σ) rfl rfl (Nat.le_of_ble_eq_true rfl) ⟨by decide, by decide⟩ dL_unlike_4 (k' := 1) (n' := 6) (by decide) (by decide) [] ⟨0, 9, 12, 19⟩ [] (by rw [hx]; rfl) (fun z hz => (nomatch hz)) (by decide) (by decide) (X.1.2.2.2.2 _ (by decide +kernel)) (va_Nw.use rfl (X.2.2.2.1.1.1.2.2.2.2.1 _ (by decide))) (fun q9 => ?_)
    refine g_astore_n X dL_unlike_12 rfl (by decide) rfl ?_
    refine g_iconst X dL_unlike_13 (v := (1 : Int32)) (by decide) ?_
    exact g_iret (Wf := (oL cy A aK qo X8)) (u := (σ', f)) X ⟨rfl, rfl⟩ dL_unlike_14
  exact K0
set_option maxHeartbeats 8000000 in
set_option maxRecDepth 100000 in
theorem w_sum_ok {f : Nat → Int64} {σ : St} {a1 : Int32} (hl : l.stackTraces = false) {v : Int64} (h : f_X10_sum a1 σ = some (.inr v)) : wI (ZL aK aO aS aV aT) D (cyT cy) l yL_sum wsL_sum ({ frames := 8, cells := 1, slots := 6, locals := 176 } : Room) (oL cy A aK qo X8) [.ref (A 0), .int a1, .ref qo] (σ, f) 0 (σ, (vp_updL f 0 v)) 1 6 := by
  refine wI_of (cc := cL_sum) (maxL := 4) (ret := (some .int)) (hh := [(0, 8, 11, 19)]) (by decide) rfl (Nat.le_of_ble_eq_true rfl) (fun p e s m args below meth c B X hx => ?_)
  have K0 : gG p l e ({ frames := 8, cells := 1, slots := 6, locals := 176 } : Room) s m args below meth c D (cyT cy) B 4 (MQ below (va_Qi (fun (r' : Int32) (u : St × (Nat → Int64)) => r' = 0 ∧ u = (σ, (vp_updL f 0 v))) (gAt D (cyT cy) (oL cy A aK qo X8) B) B) args s 1 6 B) (cW cy A aK ((qo, .inl (cy 5, 1, .inr (.inl f))) :: X8) σ) 0 0 0 [(0, .ref (A 0)), (1, .int a1), (2, .ref qo)] [] := by
    refine g_aload_n X dL_sum_0 rfl 2 rfl ?_
    refine g_iconst X dL_sum_1 (v := (0 : Int32)) (by decide) ?_
    refine g_aload_n X dL_sum_2 rfl 0 rfl ?_
    refine g_iload_n X dL_sum_3 rfl 1 rfl ?_
    refine g_xVL_ret (AD := A) (As := [.int a1]) X (ZL_ok _ _ _ _ _) (xL_up (m_X10_sum hl h)) (cwV 1 X.1.2.2.2.2 gL_sum_X10_sum rfl rfl rfl (by decide +kernel) ⟨Nat.le_of_ble_eq_true rfl, Nat.le_of_ble_eq_true rfl⟩) rfl cm0 (cE_0 cy A aK σ) rfl rfl (Nat.le_of_ble_eq_true rfl) ⟨by decide, by decide⟩ dL_sum_4 (k' := 1) (n' := 6) (by decide) (by decide) ?_
    refine g_last X 85 5 (cW_85 _ _ _ _ _) rfl (vp_in_nI (n := 0) (N := 1) (by decide) (by decide)) dL_sum_7 (cW_s85 _ _ _ _ _ _) ?_
    refine g_goto X (tgt := 14) dL_sum_8 (by decide) ?_
    refine g_iconst X dL_sum_14 (v := (0 : Int32)) (by decide) ?_
    exact g_iret (Wf := (oL cy A aK qo X8)) (u := (σ, (vp_updL f 0 v))) X ⟨rfl, rfl⟩ dL_sum_15
  exact K0
set_option maxHeartbeats 8000000 in
set_option maxRecDepth 100000 in
theorem w_sum_x1 {f : Nat → Int64} {σ : St} {a1 : Int32} (hl : l.stackTraces = false) (h : f_X10_sum a1 σ = some (.inl "java/lang/IndexOutOfBoundsException")) : wI (ZL aK aO aS aV aT) D (cyT cy) l yL_sum wsL_sum ({ frames := 8, cells := 1, slots := 6, locals := 176 } : Room) (oL cy A aK qo X8) [.ref (A 0), .int a1, .ref qo] (σ, f) 1 (σ, f) 1 6 := by
  refine wI_of (cc := cL_sum) (maxL := 4) (ret := (some .int)) (hh := [(0, 8, 11, 19)]) (by decide) rfl (Nat.le_of_ble_eq_true rfl) (fun p e s m args below meth c B X hx => ?_)
  have K0 : gG p l e ({ frames := 8, cells := 1, slots := 6, locals := 176 } : Room) s m args below meth c D (cyT cy) B 4 (MQ below (va_Qi (fun (r' : Int32) (u : St × (Nat → Int64)) => r' = 1 ∧ u = (σ, f)) (gAt D (cyT cy) (oL cy A aK qo X8) B) B) args s 1 6 B) (cW cy A aK ((qo, .inl (cy 5, 1, .inr (.inl f))) :: X8) σ) 0 0 0 [(0, .ref (A 0)), (1, .int a1), (2, .ref qo)] [] := by
    refine g_aload_n X dL_sum_0 rfl 2 rfl ?_
    refine g_iconst X dL_sum_1 (v := (0 : Int32)) (by decide) ?_
    refine g_aload_n X dL_sum_2 rfl 0 rfl ?_
    refine g_iload_n X dL_sum_3 rfl 1 rfl ?_
    refine g_xVL_cat (AD := A) (As := [.int a1]) (E0 := "java/lang/IndexOutOfBoundsException") (name := "java/lang/IndexOutOfBoundsException") X (ZL_ok _ _ _ _ _) (xL_up (m_X10_sum hl h)) (cwV 1 X.1.2.2.2.2 gL_sum_X10_sum rfl rfl rfl (by decide +kernel) ⟨Nat.le_of_ble_eq_true rfl, Nat.le_of_ble_eq_true rfl⟩) rfl cm0 (cE_0 cy A aK σ) rfl rfl (Nat.le_of_ble_eq_true rfl) ⟨by decide, by decide⟩ dL_sum_4 (k' := 1) (n' := 6) (by decide) (by decide) [] ⟨0, 8, 11, 19⟩ [] (by rw [hx]; rfl) (fun z hz => (nomatch hz)) (by decide) (by decide) (X.1.2.2.2.2 _ (by decide +kernel)) (va_Nw.use rfl (X.2.2.2.1.1.1.2.2.2.2.1 _ (by decide))) (fun q9 => ?_)
    refine g_astore_n X dL_sum_11 rfl (by decide) rfl ?_
    refine g_iconst X dL_sum_12 (v := (1 : Int32)) (by decide) ?_
    exact g_iret (Wf := (oL cy A aK qo X8)) (u := (σ, f)) X ⟨rfl, rfl⟩ dL_sum_13
  exact K0
set_option maxHeartbeats 8000000 in
set_option maxRecDepth 100000 in
theorem w_compare_ok {f : Nat → Int64} {σ : St} {a1 : Int32} {a2 : Int32} (hl : l.stackTraces = false) {v : Int32} (h : f_X10_compare a1 a2 σ = some (.inr v)) : wI (ZL aK aO aS aV aT) D (cyT cy) l yL_compare wsL_compare ({ frames := 8, cells := 2, slots := 12, locals := 179 } : Room) (oL cy A aK qo X8) [.ref (A 0), .int a1, .int a2, .ref qo] (σ, f) 0 (σ, (vp_updL f 0 v.toInt64)) 2 12 := by
  refine wI_of (cc := cL_compare) (maxL := 5) (ret := (some .int)) (hh := [(0, 10, 13, 19)]) (by decide) rfl (Nat.le_of_ble_eq_true rfl) (fun p e s m args below meth c B X hx => ?_)
  have K0 : gG p l e ({ frames := 8, cells := 2, slots := 12, locals := 179 } : Room) s m args below meth c D (cyT cy) B 5 (MQ below (va_Qi (fun (r' : Int32) (u : St × (Nat → Int64)) => r' = 0 ∧ u = (σ, (vp_updL f 0 v.toInt64))) (gAt D (cyT cy) (oL cy A aK qo X8) B) B) args s 2 12 B) (cW cy A aK ((qo, .inl (cy 5, 1, .inr (.inl f))) :: X8) σ) 0 0 0 [(0, .ref (A 0)), (1, .int a1), (2, .int a2), (3, .ref qo)] [] := by
    refine g_aload_n X dL_compare_0 rfl 3 rfl ?_
    refine g_iconst X dL_compare_1 (v := (0 : Int32)) (by decide) ?_
    refine g_aload_n X dL_compare_2 rfl 0 rfl ?_
    refine g_iload_n X dL_compare_3 rfl 1 rfl ?_
    refine g_iload_n X dL_compare_4 rfl 2 rfl ?_
    refine g_xVI_ret (AD := A) (As := [.int a1, .int a2]) X (ZL_ok _ _ _ _ _) (xI_up (m_X10_compare hl h)) (cwV 2 X.1.2.2.2.2 gL_compare_X10_compare rfl rfl rfl (by decide +kernel) ⟨Nat.le_of_ble_eq_true rfl, Nat.le_of_ble_eq_true rfl⟩) rfl cm0 (cE_0 cy A aK σ) rfl rfl (Nat.le_of_ble_eq_true rfl) ⟨by decide, by decide⟩ dL_compare_5 (k' := 2) (n' := 12) (by decide) (by decide) ?_
    refine g_i2l X dL_compare_8 ?_
    refine g_last X 85 5 (cW_85 _ _ _ _ _) rfl (vp_in_nI (n := 0) (N := 1) (by decide) (by decide)) dL_compare_9 (cW_s85 _ _ _ _ _ _) ?_
    refine g_goto X (tgt := 17) dL_compare_10 (by decide) ?_
    refine g_iconst X dL_compare_17 (v := (0 : Int32)) (by decide) ?_
    exact g_iret (Wf := (oL cy A aK qo X8)) (u := (σ, (vp_updL f 0 v.toInt64))) X ⟨rfl, rfl⟩ dL_compare_18
  exact K0
set_option maxHeartbeats 8000000 in
set_option maxRecDepth 100000 in
theorem w_compare_x1 {f : Nat → Int64} {σ : St} {a1 : Int32} {a2 : Int32} (hl : l.stackTraces = false) (h : f_X10_compare a1 a2 σ = some (.inl "java/lang/IndexOutOfBoundsException")) : wI (ZL aK aO aS aV aT) D (cyT cy) l yL_compare wsL_compare ({ frames := 8, cells := 2, slots := 12, locals := 179 } : Room) (oL cy A aK qo X8) [.ref (A 0), .int a1, .int a2, .ref qo] (σ, f) 1 (σ, f) 2 12 := by
  refine wI_of (cc := cL_compare) (maxL := 5) (ret := (some .int)) (hh := [(0, 10, 13, 19)]) (by decide) rfl (Nat.le_of_ble_eq_true rfl) (fun p e s m args below meth c B X hx => ?_)
  have K0 : gG p l e ({ frames := 8, cells := 2, slots := 12, locals := 179 } : Room) s m args below meth c D (cyT cy) B 5 (MQ below (va_Qi (fun (r' : Int32) (u : St × (Nat → Int64)) => r' = 1 ∧ u = (σ, f)) (gAt D (cyT cy) (oL cy A aK qo X8) B) B) args s 2 12 B) (cW cy A aK ((qo, .inl (cy 5, 1, .inr (.inl f))) :: X8) σ) 0 0 0 [(0, .ref (A 0)), (1, .int a1), (2, .int a2), (3, .ref qo)] [] := by
    refine g_aload_n X dL_compare_0 rfl 3 rfl ?_
    refine g_iconst X dL_compare_1 (v := (0 : Int32)) (by decide) ?_
    refine g_aload_n X dL_compare_2 rfl 0 rfl ?_
    refine g_iload_n X dL_compare_3 rfl 1 rfl ?_
    refine g_iload_n X dL_compare_4 rfl 2 rfl ?_
    refine g_xVI_cat (AD := A) (As := [.int a1, .int a2]) (E0 := "java/lang/IndexOutOfBoundsException") (name := "java/lang/IndexOutOfBoundsException") X (ZL_ok _ _ _ _ _) (xI_up (m_X10_compare hl h)) (cwV 2 X.1.2.2.2.2 gL_compare_X10_compare rfl rfl rfl (by decide +kernel) ⟨Nat.le_of_ble_eq_true rfl, Nat.le_of_ble_eq_true rfl⟩) rfl cm0 (cE_0 cy A aK σ) rfl rfl (Nat.le_of_ble_eq_true rfl) ⟨by decide, by decide⟩ dL_compare_5 (k' := 2) (n' := 12) (by decide) (by decide) [] ⟨0, 10, 13, 19⟩ [] (by rw [hx]; rfl) (fun z hz => (nomatch hz)) (by decide) (by decide) (X.1.2.2.2.2 _ (by decide +kernel)) (va_Nw.use rfl (X.2.2.2.1.1.1.2.2.2.2.1 _ (by decide))) (fun q9 => ?_)
    refine g_astore X dL_compare_13 (by decide) rfl ?_
    refine g_iconst X dL_compare_15 (v := (1 : Int32)) (by decide) ?_
    exact g_iret (Wf := (oL cy A aK qo X8)) (u := (σ, f)) X ⟨rfl, rfl⟩ dL_compare_16
  exact K0
set_option maxHeartbeats 8000000 in
set_option maxRecDepth 100000 in
theorem w_middle_ok {f : Nat → Int64} {σ σ' : St} {a1 : Int32} (hl : l.stackTraces = false) {v : Int32} (h : f_X10_middle a1 σ = some (.inr v, σ')) : wI (ZL aK aO aS aV aT) D (cyT cy) l yL_middle wzL_middle ({ frames := 8, cells := 2, slots := 12, locals := 173 } : Room) (oL cy A aK qo X8) [.ref (A 0), .int a1, .ref qo] (σ, f) 0 (σ', (vp_updL f 0 v.toInt64)) 2 12 := by
  refine wI_of (cc := cL_middle) (maxL := 4) (ret := (some .int)) (hh := [(0, 9, 12, 19), (0, 9, 15, 109)]) (by decide) rfl (Nat.le_of_ble_eq_true rfl) (fun p e s m args below meth c B X hx => ?_)
  have K0 : gG p l e ({ frames := 8, cells := 2, slots := 12, locals := 173 } : Room) s m args below meth c D (cyT cy) B 4 (MQ below (va_Qi (fun (r' : Int32) (u : St × (Nat → Int64)) => r' = 0 ∧ u = (σ', (vp_updL f 0 v.toInt64))) (gAt D (cyT cy) (oL cy A aK qo X8) B) B) args s 2 12 B) (cW cy A aK ((qo, .inl (cy 5, 1, .inr (.inl f))) :: X8) σ) 0 0 0 [(0, .ref (A 0)), (1, .int a1), (2, .ref qo)] [] := by
    refine g_aload_n X dL_middle_0 rfl 2 rfl ?_
    refine g_iconst X dL_middle_1 (v := (0 : Int32)) (by decide) ?_
    refine g_aload_n X dL_middle_2 rfl 0 rfl ?_
    refine g_iload_n X dL_middle_3 rfl 1 rfl ?_
    refine g_xVI_ret (AD := A) (As := [.int a1]) X (ZL_ok _ _ _ _ _) (xI_up (m_X10_middle hl h)) (cwV 1 X.1.2.2.2.2 gZL_middle_X10_middle rfl rfl rfl (by decide +kernel) ⟨Nat.le_of_ble_eq_true rfl, Nat.le_of_ble_eq_true rfl⟩) rfl cm0 (cE_0 cy A aK σ) rfl rfl (Nat.le_of_ble_eq_true rfl) ⟨by decide, by decide⟩ dL_middle_4 (k' := 2) (n' := 12) (by decide) (by decide) ?_
    refine g_i2l X dL_middle_7 ?_
    refine g_last X 85 5 (cW_85 _ _ _ _ _) rfl (vp_in_nI (n := 0) (N := 1) (by decide) (by decide)) dL_middle_8 (cW_s85 _ _ _ _ _ _) ?_
    refine g_goto X (tgt := 18) dL_middle_9 (by decide) ?_
    refine g_iconst X dL_middle_18 (v := (0 : Int32)) (by decide) ?_
    exact g_iret (Wf := (oL cy A aK qo X8)) (u := (σ', (vp_updL f 0 v.toInt64))) X ⟨rfl, rfl⟩ dL_middle_19
  exact K0
set_option maxHeartbeats 8000000 in
set_option maxRecDepth 100000 in
theorem w_middle_x1 {f : Nat → Int64} {σ σ' : St} {a1 : Int32} (hl : l.stackTraces = false) (h : f_X10_middle a1 σ = some (.inl "java/lang/IndexOutOfBoundsException", σ')) : wI (ZL aK aO aS aV aT) D (cyT cy) l yL_middle wzL_middle ({ frames := 8, cells := 2, slots := 12, locals := 173 } : Room) (oL cy A aK qo X8) [.ref (A 0), .int a1, .ref qo] (σ, f) 1 (σ', f) 2 12 := by
  refine wI_of (cc := cL_middle) (maxL := 4) (ret := (some .int)) (hh := [(0, 9, 12, 19), (0, 9, 15, 109)]) (by decide) rfl (Nat.le_of_ble_eq_true rfl) (fun p e s m args below meth c B X hx => ?_)
  have K0 : gG p l e ({ frames := 8, cells := 2, slots := 12, locals := 173 } : Room) s m args below meth c D (cyT cy) B 4 (MQ below (va_Qi (fun (r' : Int32) (u : St × (Nat → Int64)) => r' = 1 ∧ u = (σ', f)) (gAt D (cyT cy) (oL cy A aK qo X8) B) B) args s 2 12 B) (cW cy A aK ((qo, .inl (cy 5, 1, .inr (.inl f))) :: X8) σ) 0 0 0 [(0, .ref (A 0)), (1, .int a1), (2, .ref qo)] [] := by
    refine g_aload_n X dL_middle_0 rfl 2 rfl ?_
    refine g_iconst X dL_middle_1 (v := (0 : Int32)) (by decide) ?_
    refine g_aload_n X dL_middle_2 rfl 0 rfl ?_
    refine g_iload_n X dL_middle_3 rfl 1 rfl ?_
    refine g_xVI_cat (AD := A) (As := [.int a1]) (E0 := "java/lang/IndexOutOfBoundsException") (name := "java/lang/IndexOutOfBoundsException") X (ZL_ok _ _ _ _ _) (xI_up (m_X10_middle hl h)) (cwV 1 X.1.2.2.2.2 gZL_middle_X10_middle rfl rfl rfl (by decide +kernel) ⟨Nat.le_of_ble_eq_true rfl, Nat.le_of_ble_eq_true rfl⟩) rfl cm0 (cE_0 cy A aK σ) rfl rfl (Nat.le_of_ble_eq_true rfl) ⟨by decide, by decide⟩ dL_middle_4 (k' := 2) (n' := 12) (by decide) (by decide) [] ⟨0, 9, 12, 19⟩ [⟨0, 9, 15, 109⟩] (by rw [hx]; rfl) (fun z hz => (nomatch hz)) (by decide) (by decide) (X.1.2.2.2.2 _ (by decide +kernel)) (va_Nw.use rfl (X.2.2.2.1.1.1.2.2.2.2.1 _ (by decide))) (fun q9 => ?_)
    refine g_astore_n X dL_middle_12 rfl (by decide) rfl ?_
    refine g_iconst X dL_middle_13 (v := (1 : Int32)) (by decide) ?_
    exact g_iret (Wf := (oL cy A aK qo X8)) (u := (σ', f)) X ⟨rfl, rfl⟩ dL_middle_14
  exact K0
set_option maxHeartbeats 8000000 in
set_option maxRecDepth 100000 in
theorem w_middle_x2 {f : Nat → Int64} {σ σ' : St} {a1 : Int32} (hl : l.stackTraces = false) (h : f_X10_middle a1 σ = some (.inl "java/util/NoSuchElementException", σ')) : wI (ZL aK aO aS aV aT) D (cyT cy) l yL_middle wzL_middle ({ frames := 8, cells := 2, slots := 12, locals := 173 } : Room) (oL cy A aK qo X8) [.ref (A 0), .int a1, .ref qo] (σ, f) 2 (σ', f) 2 12 := by
  refine wI_of (cc := cL_middle) (maxL := 4) (ret := (some .int)) (hh := [(0, 9, 12, 19), (0, 9, 15, 109)]) (by decide) rfl (Nat.le_of_ble_eq_true rfl) (fun p e s m args below meth c B X hx => ?_)
  have K0 : gG p l e ({ frames := 8, cells := 2, slots := 12, locals := 173 } : Room) s m args below meth c D (cyT cy) B 4 (MQ below (va_Qi (fun (r' : Int32) (u : St × (Nat → Int64)) => r' = 2 ∧ u = (σ', f)) (gAt D (cyT cy) (oL cy A aK qo X8) B) B) args s 2 12 B) (cW cy A aK ((qo, .inl (cy 5, 1, .inr (.inl f))) :: X8) σ) 0 0 0 [(0, .ref (A 0)), (1, .int a1), (2, .ref qo)] [] := by
    refine g_aload_n X dL_middle_0 rfl 2 rfl ?_
    refine g_iconst X dL_middle_1 (v := (0 : Int32)) (by decide) ?_
    refine g_aload_n X dL_middle_2 rfl 0 rfl ?_
    refine g_iload_n X dL_middle_3 rfl 1 rfl ?_
    refine g_xVI_cat (AD := A) (As := [.int a1]) (E0 := "java/util/NoSuchElementException") (name := "java/util/NoSuchElementException") X (ZL_ok _ _ _ _ _) (xI_up (m_X10_middle hl h)) (cwV 1 X.1.2.2.2.2 gZL_middle_X10_middle rfl rfl rfl (by decide +kernel) ⟨Nat.le_of_ble_eq_true rfl, Nat.le_of_ble_eq_true rfl⟩) rfl cm0 (cE_0 cy A aK σ) rfl rfl (Nat.le_of_ble_eq_true rfl) ⟨by decide, by decide⟩ dL_middle_4 (k' := 2) (n' := 12) (by decide) (by decide) [⟨0, 9, 12, 19⟩] ⟨0, 9, 15, 109⟩ [] (by rw [hx]; rfl) (fun z hz => by
      simp only [List.mem_cons, List.not_mem_nil, or_false] at hz
      rcases hz with rfl
      · exact Or.inr ⟨by decide, "java/lang/IndexOutOfBoundsException", X.1.2.2.2.2 _ (by decide +kernel), X.2.2.2.1.2 "java/util/NoSuchElementException" (by decide) "java/lang/IndexOutOfBoundsException" (by decide) (by decide)⟩) (by decide) (by decide) (X.1.2.2.2.2 _ (by decide +kernel)) (va_Nw.use rfl (X.2.2.2.1.1.1.2.2.2.2.1 _ (by decide))) (fun q9 => ?_)
    refine g_astore_n X dL_middle_15 rfl (by decide) rfl ?_
    refine g_iconst X dL_middle_16 (v := (2 : Int32)) (by decide) ?_
    exact g_iret (Wf := (oL cy A aK qo X8)) (u := (σ', f)) X ⟨rfl, rfl⟩ dL_middle_17
  exact K0
set_option maxHeartbeats 8000000 in
set_option maxRecDepth 100000 in
theorem w_mean_ok {f : Nat → UInt64} {σ : St} {a1 : Int32} (hl : l.stackTraces = false) {v : UInt64} (h : f_X10_mean a1 σ = some (.inr v)) : wI (ZL aK aO aS aV aT) D (cyT cy) l yL_mean wsL_mean ({ frames := 8, cells := 1, slots := 6, locals := 176 } : Room) (oD cy A aK qo9 e9 qo X8) [.ref (A 0), .int a1, .ref qo] (σ, f) 0 (σ, (vf_upd f 0 v)) 1 6 := by
  refine wI_of (cc := cL_mean) (maxL := 4) (ret := (some .int)) (hh := [(0, 8, 11, 19)]) (by decide) rfl (Nat.le_of_ble_eq_true rfl) (fun p e s m args below meth c B X hx => ?_)
  have K0 : gG p l e ({ frames := 8, cells := 1, slots := 6, locals := 176 } : Room) s m args below meth c D (cyT cy) B 4 (MQ below (va_Qi (fun (r' : Int32) (u : St × (Nat → UInt64)) => r' = 0 ∧ u = (σ, (vf_upd f 0 v))) (gAt D (cyT cy) (oD cy A aK qo9 e9 qo X8) B) B) args s 1 6 B) (cW cy A aK ((qo9, e9) :: (qo, .inl (cy 6, 1, .inr (.inr (.inr (.inl f))))) :: X8) σ) 0 0 0 [(0, .ref (A 0)), (1, .int a1), (2, .ref qo)] [] := by
    refine g_aload_n X dL_mean_0 rfl 2 rfl ?_
    refine g_iconst X dL_mean_1 (v := (0 : Int32)) (by decide) ?_
    refine g_aload_n X dL_mean_2 rfl 0 rfl ?_
    refine g_iload_n X dL_mean_3 rfl 1 rfl ?_
    refine g_xVDd_ret (AD := A) (As := [.int a1]) X (ZL_ok _ _ _ _ _) (xDd_up (m_X10_mean hl h)) (cwV 1 X.1.2.2.2.2 gL_mean_X10_mean rfl rfl rfl (by decide +kernel) ⟨Nat.le_of_ble_eq_true rfl, Nat.le_of_ble_eq_true rfl⟩) rfl cm0 (cE_0 cy A aK σ) rfl rfl (Nat.le_of_ble_eq_true rfl) ⟨by decide, by decide⟩ dL_mean_4 (k' := 1) (n' := 6) (by decide) (by decide) ?_
    refine g_dast X 86 6 (cW_86 _ _ _ _ _) rfl (vp_in_nI (n := 0) (N := 1) (by decide) (by decide)) dL_mean_7 (cW_s86 _ _ _ _ _ _) ?_
    refine g_goto X (tgt := 14) dL_mean_8 (by decide) ?_
    refine g_iconst X dL_mean_14 (v := (0 : Int32)) (by decide) ?_
    exact g_iret (Wf := (oD cy A aK qo9 e9 qo X8)) (u := (σ, (vf_upd f 0 v))) X ⟨rfl, rfl⟩ dL_mean_15
  exact K0
set_option maxHeartbeats 8000000 in
set_option maxRecDepth 100000 in
theorem w_mean_x1 {f : Nat → UInt64} {σ : St} {a1 : Int32} (hl : l.stackTraces = false) (h : f_X10_mean a1 σ = some (.inl "java/lang/IndexOutOfBoundsException")) : wI (ZL aK aO aS aV aT) D (cyT cy) l yL_mean wsL_mean ({ frames := 8, cells := 1, slots := 6, locals := 176 } : Room) (oD cy A aK qo9 e9 qo X8) [.ref (A 0), .int a1, .ref qo] (σ, f) 1 (σ, f) 1 6 := by
  refine wI_of (cc := cL_mean) (maxL := 4) (ret := (some .int)) (hh := [(0, 8, 11, 19)]) (by decide) rfl (Nat.le_of_ble_eq_true rfl) (fun p e s m args below meth c B X hx => ?_)
  have K0 : gG p l e ({ frames := 8, cells := 1, slots := 6, locals := 176 } : Room) s m args below meth c D (cyT cy) B 4 (MQ below (va_Qi (fun (r' : Int32) (u : St × (Nat → UInt64)) => r' = 1 ∧ u = (σ, f)) (gAt D (cyT cy) (oD cy A aK qo9 e9 qo X8) B) B) args s 1 6 B) (cW cy A aK ((qo9, e9) :: (qo, .inl (cy 6, 1, .inr (.inr (.inr (.inl f))))) :: X8) σ) 0 0 0 [(0, .ref (A 0)), (1, .int a1), (2, .ref qo)] [] := by
    refine g_aload_n X dL_mean_0 rfl 2 rfl ?_
    refine g_iconst X dL_mean_1 (v := (0 : Int32)) (by decide) ?_
    refine g_aload_n X dL_mean_2 rfl 0 rfl ?_
    refine g_iload_n X dL_mean_3 rfl 1 rfl ?_
    refine g_xVDd_cat (AD := A) (As := [.int a1]) (E0 := "java/lang/IndexOutOfBoundsException") (name := "java/lang/IndexOutOfBoundsException") X (ZL_ok _ _ _ _ _) (xDd_up (m_X10_mean hl h)) (cwV 1 X.1.2.2.2.2 gL_mean_X10_mean rfl rfl rfl (by decide +kernel) ⟨Nat.le_of_ble_eq_true rfl, Nat.le_of_ble_eq_true rfl⟩) rfl cm0 (cE_0 cy A aK σ) rfl rfl (Nat.le_of_ble_eq_true rfl) ⟨by decide, by decide⟩ dL_mean_4 (k' := 1) (n' := 6) (by decide) (by decide) [] ⟨0, 8, 11, 19⟩ [] (by rw [hx]; rfl) (fun z hz => (nomatch hz)) (by decide) (by decide) (X.1.2.2.2.2 _ (by decide +kernel)) (va_Nw.use rfl (X.2.2.2.1.1.1.2.2.2.2.1 _ (by decide))) (fun q9 => ?_)
    refine g_astore_n X dL_mean_11 rfl (by decide) rfl ?_
    refine g_iconst X dL_mean_12 (v := (1 : Int32)) (by decide) ?_
    exact g_iret (Wf := (oD cy A aK qo9 e9 qo X8)) (u := (σ, f)) X ⟨rfl, rfl⟩ dL_mean_13
  exact K0
set_option maxHeartbeats 8000000 in
set_option maxRecDepth 100000 in
theorem w_risingShare_ok {f : Nat → UInt64} {σ : St} {a1 : Int32} (hl : l.stackTraces = false) {v : UInt32} (hv : vf_n64 (FP.f2d v)) (h : f_X10_risingShare a1 σ = some (.inr v)) : wI (ZL aK aO aS aV aT) D (cyT cy) l yL_risingShare wsL_risingShare ({ frames := 8, cells := 1, slots := 6, locals := 173 } : Room) (oD cy A aK qo9 e9 qo X8) [.ref (A 0), .int a1, .ref qo] (σ, f) 0 (σ, (vf_upd f 0 (FP.f2d v))) 1 6 := by
  refine wI_of (cc := cL_risingShare) (maxL := 4) (ret := (some .int)) (hh := [(0, 9, 12, 19)]) (by decide) rfl (Nat.le_of_ble_eq_true rfl) (fun p e s m args below meth c B X hx => ?_)
  have K0 : gG p l e ({ frames := 8, cells := 1, slots := 6, locals := 173 } : Room) s m args below meth c D (cyT cy) B 4 (MQ below (va_Qi (fun (r' : Int32) (u : St × (Nat → UInt64)) => r' = 0 ∧ u = (σ, (vf_upd f 0 (FP.f2d v)))) (gAt D (cyT cy) (oD cy A aK qo9 e9 qo X8) B) B) args s 1 6 B) (cW cy A aK ((qo9, e9) :: (qo, .inl (cy 6, 1, .inr (.inr (.inr (.inl f))))) :: X8) σ) 0 0 0 [(0, .ref (A 0)), (1, .int a1), (2, .ref qo)] [] := by
    refine g_aload_n X dL_risingShare_0 rfl 2 rfl ?_
    refine g_iconst X dL_risingShare_1 (v := (0 : Int32)) (by decide) ?_
    refine g_aload_n X dL_risingShare_2 rfl 0 rfl ?_
    refine g_iload_n X dL_risingShare_3 rfl 1 rfl ?_
    refine g_xVF_ret (AD := A) (As := [.int a1]) X (ZL_ok _ _ _ _ _) (xF_up (m_X10_risingShare hl h)) (cwV 1 X.1.2.2.2.2 gL_risingShare_X10_risingShare rfl rfl rfl (by decide +kernel) ⟨Nat.le_of_ble_eq_true rfl, Nat.le_of_ble_eq_true rfl⟩) rfl cm0 (cE_0 cy A aK σ) rfl rfl (Nat.le_of_ble_eq_true rfl) ⟨by decide, by decide⟩ dL_risingShare_4 (k' := 1) (n' := 6) (by decide) (by decide) ?_
    refine g_f2d X dL_risingShare_7 hv ?_
    refine g_dast X 86 6 (cW_86 _ _ _ _ _) rfl (vp_in_nI (n := 0) (N := 1) (by decide) (by decide)) dL_risingShare_8 (cW_s86 _ _ _ _ _ _) ?_
    refine g_goto X (tgt := 15) dL_risingShare_9 (by decide) ?_
    refine g_iconst X dL_risingShare_15 (v := (0 : Int32)) (by decide) ?_
    exact g_iret (Wf := (oD cy A aK qo9 e9 qo X8)) (u := (σ, (vf_upd f 0 (FP.f2d v)))) X ⟨rfl, rfl⟩ dL_risingShare_16
  exact K0
set_option maxHeartbeats 8000000 in
set_option maxRecDepth 100000 in
theorem w_risingShare_x1 {f : Nat → UInt64} {σ : St} {a1 : Int32} (hl : l.stackTraces = false) (h : f_X10_risingShare a1 σ = some (.inl "java/lang/IndexOutOfBoundsException")) : wI (ZL aK aO aS aV aT) D (cyT cy) l yL_risingShare wsL_risingShare ({ frames := 8, cells := 1, slots := 6, locals := 173 } : Room) (oD cy A aK qo9 e9 qo X8) [.ref (A 0), .int a1, .ref qo] (σ, f) 1 (σ, f) 1 6 := by
  refine wI_of (cc := cL_risingShare) (maxL := 4) (ret := (some .int)) (hh := [(0, 9, 12, 19)]) (by decide) rfl (Nat.le_of_ble_eq_true rfl) (fun p e s m args below meth c B X hx => ?_)
  have K0 : gG p l e ({ frames := 8, cells := 1, slots := 6, locals := 173 } : Room) s m args below meth c D (cyT cy) B 4 (MQ below (va_Qi (fun (r' : Int32) (u : St × (Nat → UInt64)) => r' = 1 ∧ u = (σ, f)) (gAt D (cyT cy) (oD cy A aK qo9 e9 qo X8) B) B) args s 1 6 B) (cW cy A aK ((qo9, e9) :: (qo, .inl (cy 6, 1, .inr (.inr (.inr (.inl f))))) :: X8) σ) 0 0 0 [(0, .ref (A 0)), (1, .int a1), (2, .ref qo)] [] := by
    refine g_aload_n X dL_risingShare_0 rfl 2 rfl ?_
    refine g_iconst X dL_risingShare_1 (v := (0 : Int32)) (by decide) ?_
    refine g_aload_n X dL_risingShare_2 rfl 0 rfl ?_
    refine g_iload_n X dL_risingShare_3 rfl 1 rfl ?_
    refine g_xVF_cat (AD := A) (As := [.int a1]) (E0 := "java/lang/IndexOutOfBoundsException") (name := "java/lang/IndexOutOfBoundsException") X (ZL_ok _ _ _ _ _) (xF_up (m_X10_risingShare hl h)) (cwV 1 X.1.2.2.2.2 gL_risingShare_X10_risingShare rfl rfl rfl (by decide +kernel) ⟨Nat.le_of_ble_eq_true rfl, Nat.le_of_ble_eq_true rfl⟩) rfl cm0 (cE_0 cy A aK σ) rfl rfl (Nat.le_of_ble_eq_true rfl) ⟨by decide, by decide⟩ dL_risingShare_4 (k' := 1) (n' := 6) (by decide) (by decide) [] ⟨0, 9, 12, 19⟩ [] (by rw [hx]; rfl) (fun z hz => (nomatch hz)) (by decide) (by decide) (X.1.2.2.2.2 _ (by decide +kernel)) (va_Nw.use rfl (X.2.2.2.1.1.1.2.2.2.2.1 _ (by decide))) (fun q9 => ?_)
    refine g_astore_n X dL_risingShare_12 rfl (by decide) rfl ?_
    refine g_iconst X dL_risingShare_13 (v := (1 : Int32)) (by decide) ?_
    exact g_iret (Wf := (oD cy A aK qo9 e9 qo X8)) (u := (σ, f)) X ⟨rfl, rfl⟩ dL_risingShare_14
  exact K0
end WR
