/-! the constructors -/
section CI
variable {cy : Nat → ClassId} {aK aO aS aV aT bS bV dA : Nat → Nat} {D : va_G} {l : Launch}
set_option maxHeartbeats 8000000 in
set_option maxRecDepth 100000 in
theorem c_X1_init (h : Nat) : cV (ZI aK aO aS aV aT bS bV dA) D (cyT cy) l yX1_init wsX1_init ({ frames := 1, cells := 2, slots := 40000, locals := 12 } : Room) [(h, .inr (2, [.null, .null, .int 0]))] [.ref h] (fun _ : Nat × Nat => True) (fun u : Nat × Nat => [(h, .inr (2, [.ref u.1, .ref u.2, .int 0])), (u.1, .inl (cy 0, 20000, .inl (fun _ => 0))), (u.2, .inl (cy 0, 20000, .inl (fun _ => 0)))]) 2 40000 := by
  refine cV_of (cc := cX1_init) (maxL := 1) (by decide) rfl (Nat.le_of_ble_eq_true rfl) (fun p e s m args below meth c B X hnm => ?_)
  have hin1 : ∀ w ∈ u_ws RX1 TX1 3, w ∈ wsX1_init := by decide +kernel
  have K0 : gG p l e ({ frames := 1, cells := 2, slots := 40000, locals := 12 } : Room) s m args below meth c D (cyT cy) B 1 (MQ below (va_Qv (fun _ : Nat × Nat => True) (gAt D (cyT cy) (fun u : Nat × Nat => [(h, .inr (2, [.ref u.1, .ref u.2, .int 0])), (u.1, .inl (cy 0, 20000, .inl (fun _ => 0))), (u.2, .inl (cy 0, 20000, .inl (fun _ => 0)))]) B) B) args s 2 40000 B) [(h, .inr (2, [.null, .null, .int 0]))] 0 0 0 [(0, .ref h)] [] := by
    refine g_aload_n X dX1_init_0 rfl 0 rfl ?_
    refine g_objI X (by decide +kernel) (by decide +kernel) (by decide +kernel) dX1_init_1 (by decide) (Nat.le_of_ble_eq_true rfl) ?_
    refine g_aload_n X dX1_init_4 rfl 0 rfl ?_
    refine g_sipush X dX1_init_5 (v := (20000 : Int32)) (by decide) ?_
    refine g_newa X (atype := .int) (a0 := (20000, .inl (fun _ => (0 : Int32)))) (N := 20000) (cA := cy 0) (by decide +kernel) rfl 0 rfl (fun _ => rfl) (by decide) (by decide) (Nat.le_of_ble_eq_true rfl) (by decide) (by decide) dX1_init_8 (fun q1 => ?_)
    refine g_weq (ws9 := [(h, .inr (2, [.null, .null, .int 0])), (q1, .inl (cy 0, 20000, .inl (fun _ => 0)))]) rfl ?_
    refine g_putFK X 0 (ref := "Cardcabinet$Deck") (C := RX1) (T := TX1) (N := 3) (ci := 2) (fs := [.null, .null, .int 0]) rfl hin1 rfl tyX1 tyX1_ok nmX1 0 (by decide) (by decide +kernel) (fun _ h9 => h9) rfl hnm rfl (ty := (.array .int)) (v := .ref q1) (by decide +kernel) rfl rfl (Nat.le_of_ble_eq_true rfl) dX1_init_10 (ws9 := [(h, .inr (2, [.ref q1, .null, .int 0])), (q1, .inl (cy 0, 20000, .inl (fun _ => 0)))]) rfl ?_
    refine g_aload_n X dX1_init_13 rfl 0 rfl ?_
    refine g_sipush X dX1_init_14 (v := (20000 : Int32)) (by decide) ?_
    refine g_newa X (atype := .int) (a0 := (20000, .inl (fun _ => (0 : Int32)))) (N := 20000) (cA := cy 0) (by decide +kernel) rfl 0 rfl (fun _ => rfl) (by decide) (by decide) (Nat.le_of_ble_eq_true rfl) (by decide) (by decide) dX1_init_17 (fun q2 => ?_)
    refine g_weq (ws9 := [(h, .inr (2, [.ref q1, .null, .int 0])), (q1, .inl (cy 0, 20000, .inl (fun _ => 0))), (q2, .inl (cy 0, 20000, .inl (fun _ => 0)))]) rfl ?_
    refine g_putFK X 0 (ref := "Cardcabinet$Deck") (C := RX1) (T := TX1) (N := 3) (ci := 2) (fs := [.ref q1, .null, .int 0]) rfl hin1 rfl tyX1 tyX1_ok nmX1 1 (by decide) (by decide +kernel) (fun _ h9 => h9) rfl hnm rfl (ty := (.array .int)) (v := .ref q2) (by decide +kernel) rfl rfl (Nat.le_of_ble_eq_true rfl) dX1_init_19 (ws9 := [(h, .inr (2, [.ref q1, .ref q2, .int 0])), (q1, .inl (cy 0, 20000, .inl (fun _ => 0))), (q2, .inl (cy 0, 20000, .inl (fun _ => 0)))]) rfl ?_
    exact g_vret (Wf := (fun u : Nat × Nat => [(h, .inr (2, [.ref u.1, .ref u.2, .int 0])), (u.1, .inl (cy 0, 20000, .inl (fun _ => 0))), (u.2, .inl (cy 0, 20000, .inl (fun _ => 0)))])) (u := (q1, q2)) X trivial dX1_init_22
  exact K0
set_option maxHeartbeats 8000000 in
set_option maxRecDepth 100000 in
theorem c_X6_init (h : Nat) : cV (ZI aK aO aS aV aT bS bV dA) D (cyT cy) l yX6_init wsX6_init ({ frames := 1, cells := 1, slots := 800, locals := 12 } : Room) [(h, .inr (5, [.null, .int 0]))] [.ref h] (fun _ : Nat => True) (fun u : Nat => [(h, .inr (5, [.ref u, .int 0])), (u, .inl (cy 0, 800, .inl (fun _ => 0)))]) 1 800 := by
  refine cV_of (cc := cX6_init) (maxL := 1) (by decide) rfl (Nat.le_of_ble_eq_true rfl) (fun p e s m args below meth c B X hnm => ?_)
  have hin6 : ∀ w ∈ u_ws RX6 TX6 2, w ∈ wsX6_init := by decide +kernel
  have K0 : gG p l e ({ frames := 1, cells := 1, slots := 800, locals := 12 } : Room) s m args below meth c D (cyT cy) B 1 (MQ below (va_Qv (fun _ : Nat => True) (gAt D (cyT cy) (fun u : Nat => [(h, .inr (5, [.ref u, .int 0])), (u, .inl (cy 0, 800, .inl (fun _ => 0)))]) B) B) args s 1 800 B) [(h, .inr (5, [.null, .int 0]))] 0 0 0 [(0, .ref h)] [] := by
    refine g_aload_n X dX6_init_0 rfl 0 rfl ?_
    refine g_objI X (by decide +kernel) (by decide +kernel) (by decide +kernel) dX6_init_1 (by decide) (Nat.le_of_ble_eq_true rfl) ?_
    refine g_aload_n X dX6_init_4 rfl 0 rfl ?_
    refine g_sipush X dX6_init_5 (v := (800 : Int32)) (by decide) ?_
    refine g_newa X (atype := .int) (a0 := (800, .inl (fun _ => (0 : Int32)))) (N := 800) (cA := cy 0) (by decide +kernel) rfl 0 rfl (fun _ => rfl) (by decide) (by decide) (Nat.le_of_ble_eq_true rfl) (by decide) (by decide) dX6_init_8 (fun q1 => ?_)
    refine g_weq (ws9 := [(h, .inr (5, [.null, .int 0])), (q1, .inl (cy 0, 800, .inl (fun _ => 0)))]) rfl ?_
    refine g_putFK X 0 (ref := "Cardcabinet$Row") (C := RX6) (T := TX6) (N := 2) (ci := 5) (fs := [.null, .int 0]) rfl hin6 rfl tyX6 tyX6_ok nmX6 0 (by decide) (by decide +kernel) (fun _ h9 => h9) rfl hnm rfl (ty := (.array .int)) (v := .ref q1) (by decide +kernel) rfl rfl (Nat.le_of_ble_eq_true rfl) dX6_init_10 (ws9 := [(h, .inr (5, [.ref q1, .int 0])), (q1, .inl (cy 0, 800, .inl (fun _ => 0)))]) rfl ?_
    exact g_vret (Wf := (fun u : Nat => [(h, .inr (5, [.ref u, .int 0])), (u, .inl (cy 0, 800, .inl (fun _ => 0)))])) (u := q1) X trivial dX6_init_13
  exact K0
set_option maxHeartbeats 8000000 in
set_option maxRecDepth 100000 in
theorem c_X9_init (h : Nat) : cV (ZI aK aO aS aV aT bS bV dA) D (cyT cy) l yX9_init wsX9_init ({ frames := 1, cells := 1, slots := 400, locals := 12 } : Room) [(h, .inr (8, [.null, .int 0, .int 0, .int 0]))] [.ref h] (fun _ : Nat => True) (fun u : Nat => [(h, .inr (8, [.ref u, .int 0, .int 0, .int 0])), (u, .inl (cy 1, 400, .inl (fun _ => 0)))]) 1 400 := by
  refine cV_of (cc := cX9_init) (maxL := 1) (by decide) rfl (Nat.le_of_ble_eq_true rfl) (fun p e s m args below meth c B X hnm => ?_)
  have hin9 : ∀ w ∈ u_ws RX9 TX9 4, w ∈ wsX9_init := by decide +kernel
  have K0 : gG p l e ({ frames := 1, cells := 1, slots := 400, locals := 12 } : Room) s m args below meth c D (cyT cy) B 1 (MQ below (va_Qv (fun _ : Nat => True) (gAt D (cyT cy) (fun u : Nat => [(h, .inr (8, [.ref u, .int 0, .int 0, .int 0])), (u, .inl (cy 1, 400, .inl (fun _ => 0)))]) B) B) args s 1 400 B) [(h, .inr (8, [.null, .int 0, .int 0, .int 0]))] 0 0 0 [(0, .ref h)] [] := by
    refine g_aload_n X dX9_init_0 rfl 0 rfl ?_
    refine g_objI X (by decide +kernel) (by decide +kernel) (by decide +kernel) dX9_init_1 (by decide) (Nat.le_of_ble_eq_true rfl) ?_
    refine g_aload_n X dX9_init_4 rfl 0 rfl ?_
    refine g_sipush X dX9_init_5 (v := (400 : Int32)) (by decide) ?_
    refine g_newa X (atype := .byte) (a0 := (400, .inl (fun _ => (0 : Int32)))) (N := 400) (cA := cy 1) (by decide +kernel) rfl 1 rfl (fun _ => rfl) (by decide) (by decide) (Nat.le_of_ble_eq_true rfl) (by decide) (by decide) dX9_init_8 (fun q1 => ?_)
    refine g_weq (ws9 := [(h, .inr (8, [.null, .int 0, .int 0, .int 0])), (q1, .inl (cy 1, 400, .inl (fun _ => 0)))]) rfl ?_
    refine g_putFK X 0 (ref := "Cardcabinet$Text") (C := RX9) (T := TX9) (N := 4) (ci := 8) (fs := [.null, .int 0, .int 0, .int 0]) rfl hin9 rfl tyX9 tyX9_ok nmX9 0 (by decide) (by decide +kernel) (fun _ h9 => h9) rfl hnm rfl (ty := (.array .byte)) (v := .ref q1) (by decide +kernel) rfl rfl (Nat.le_of_ble_eq_true rfl) dX9_init_10 (ws9 := [(h, .inr (8, [.ref q1, .int 0, .int 0, .int 0])), (q1, .inl (cy 1, 400, .inl (fun _ => 0)))]) rfl ?_
    exact g_vret (Wf := (fun u : Nat => [(h, .inr (8, [.ref u, .int 0, .int 0, .int 0])), (u, .inl (cy 1, 400, .inl (fun _ => 0)))])) (u := q1) X trivial dX9_init_13
  exact K0
set_option maxHeartbeats 8000000 in
set_option maxRecDepth 100000 in
theorem c_X2_init (h : Nat) : cV (ZI aK aO aS aV aT bS bV dA) D (cyT cy) l yX2_init wsX2_init ({ frames := 1, cells := 0, slots := 0, locals := 12 } : Room) [(h, .inr (3, [.int 0]))] [.ref h] (fun _ : Unit => True) (fun _ : Unit => [(h, .inr (3, [.int 1]))]) 0 0 := by
  refine cV_of (cc := cX2_init) (maxL := 1) (by decide) rfl (Nat.le_of_ble_eq_true rfl) (fun p e s m args below meth c B X hnm => ?_)
  have hin2 : ∀ w ∈ u_ws RX2 TX2 1, w ∈ wsX2_init := by decide +kernel
  have K0 : gG p l e ({ frames := 1, cells := 0, slots := 0, locals := 12 } : Room) s m args below meth c D (cyT cy) B 1 (MQ below (va_Qv (fun _ : Unit => True) (gAt D (cyT cy) (fun _ : Unit => [(h, .inr (3, [.int 1]))]) B) B) args s 0 0 B) [(h, .inr (3, [.int 0]))] 0 0 0 [(0, .ref h)] [] := by
    refine g_aload_n X dX2_init_0 rfl 0 rfl ?_
    refine g_objI X (by decide +kernel) (by decide +kernel) (by decide +kernel) dX2_init_1 (by decide) (Nat.le_of_ble_eq_true rfl) ?_
    refine g_aload_n X dX2_init_4 rfl 0 rfl ?_
    refine g_iconst X dX2_init_5 (v := (1 : Int32)) (by decide) ?_
    refine g_putK X 0 (ref := "Cardcabinet$Draws") (C := RX2) (T := TX2) (N := 1) (ci := 3) (fs := [.int 0]) rfl hin2 rfl tyX2 tyX2_ok nmX2 0 (by decide) (by decide +kernel) (fun _ h9 => h9) rfl (ty := .int) (v := .int (1 : Int32)) (by decide +kernel) rfl rfl (Nat.le_of_ble_eq_true rfl) dX2_init_6 (ws9 := [(h, .inr (3, [.int (1 : Int32)]))]) rfl ?_
    exact g_vret (Wf := (fun _ : Unit => [(h, .inr (3, [.int 1]))])) (u := ()) X trivial dX2_init_9
  exact K0
set_option maxHeartbeats 8000000 in
set_option maxRecDepth 100000 in
theorem c_X7_init (h : Nat) : cV (ZI aK aO aS aV aT bS bV dA) D (cyT cy) l yX7_init wsX7_init ({ frames := 1, cells := 0, slots := 0, locals := 12 } : Room) [(h, .inr (6, [.null, .int 0, .int 0, .int 0, .int 0, .int 0]))] [.ref h] (fun _ : Unit => True) (fun _ : Unit => [(h, .inr (6, [.ref (aK 0), .int 0, .int 0, .int 0, .int 0, .int 0]))]) 0 0 := by
  refine cV_of (cc := cX7_init) (maxL := 1) (by decide) rfl (Nat.le_of_ble_eq_true rfl) (fun p e s m args below meth c B X hnm => ?_)
  have hin7 : ∀ w ∈ u_ws RX7 TX7 6, w ∈ wsX7_init := by decide +kernel
  have K0 : gG p l e ({ frames := 1, cells := 0, slots := 0, locals := 12 } : Room) s m args below meth c D (cyT cy) B 1 (MQ below (va_Qv (fun _ : Unit => True) (gAt D (cyT cy) (fun _ : Unit => [(h, .inr (6, [.ref (aK 0), .int 0, .int 0, .int 0, .int 0, .int 0]))]) B) B) args s 0 0 B) [(h, .inr (6, [.null, .int 0, .int 0, .int 0, .int 0, .int 0]))] 0 0 0 [(0, .ref h)] [] := by
    refine g_aload_n X dX7_init_0 rfl 0 rfl ?_
    refine g_objI X (by decide +kernel) (by decide +kernel) (by decide +kernel) dX7_init_1 (by decide) (Nat.le_of_ble_eq_true rfl) ?_
    refine g_aload_n X dX7_init_4 rfl 0 rfl ?_
    refine g_sK (gC_ZC X) (i := 0) (by decide) (by decide +kernel) dX7_init_5 ?_
    refine g_putK X 0 (ref := "Cardcabinet$Run") (C := RX7) (T := TX7) (N := 6) (ci := 6) (fs := [.null, .int 0, .int 0, .int 0, .int 0, .int 0]) rfl hin7 rfl tyX7 tyX7_ok nmX7 0 (by decide) (by decide +kernel) (fun _ h9 => h9) rfl (ty := (.object "Cardcabinet$Kind")) (v := .ref (aK 0)) (by decide +kernel) rfl rfl (Nat.le_of_ble_eq_true rfl) dX7_init_8 (ws9 := [(h, .inr (6, [.ref (aK 0), .int 0, .int 0, .int 0, .int 0, .int 0]))]) rfl ?_
    exact g_vret (Wf := (fun _ : Unit => [(h, .inr (6, [.ref (aK 0), .int 0, .int 0, .int 0, .int 0, .int 0]))])) (u := ()) X trivial dX7_init_11
  exact K0
set_option maxHeartbeats 8000000 in
set_option maxRecDepth 100000 in
theorem c_X8_init (h : Nat) (dk : Nat) : cV (ZI aK aO aS aV aT bS bV dA) D (cyT cy) l yX8_init wsX8_init ({ frames := 1, cells := 2, slots := 6400, locals := 12 } : Room) [(h, .inr (7, [.null, .null, .null, .int 0]))] [.ref h, .ref dk] (fun _ : Nat × Nat => True) (fun u : Nat × Nat => [(h, .inr (7, [.ref dk, .ref u.1, .ref u.2, .int 0])), (u.1, .inl (cy 0, 3200, .inl (fun _ => 0))), (u.2, .inl (cy 0, 3200, .inl (fun _ => 0)))]) 2 6400 := by
  refine cV_of (cc := cX8_init) (maxL := 2) (by decide) rfl (Nat.le_of_ble_eq_true rfl) (fun p e s m args below meth c B X hnm => ?_)
  have hin8 : ∀ w ∈ u_ws RX8 TX8 4, w ∈ wsX8_init := by decide +kernel
  have K0 : gG p l e ({ frames := 1, cells := 2, slots := 6400, locals := 12 } : Room) s m args below meth c D (cyT cy) B 2 (MQ below (va_Qv (fun _ : Nat × Nat => True) (gAt D (cyT cy) (fun u : Nat × Nat => [(h, .inr (7, [.ref dk, .ref u.1, .ref u.2, .int 0])), (u.1, .inl (cy 0, 3200, .inl (fun _ => 0))), (u.2, .inl (cy 0, 3200, .inl (fun _ => 0)))]) B) B) args s 2 6400 B) [(h, .inr (7, [.null, .null, .null, .int 0]))] 0 0 0 [(0, .ref h), (1, .ref dk)] [] := by
    refine g_aload_n X dX8_init_0 rfl 0 rfl ?_
    refine g_objI X (by decide +kernel) (by decide +kernel) (by decide +kernel) dX8_init_1 (by decide) (Nat.le_of_ble_eq_true rfl) ?_
    refine g_aload_n X dX8_init_4 rfl 0 rfl ?_
    refine g_sipush X dX8_init_5 (v := (3200 : Int32)) (by decide) ?_
    refine g_newa X (atype := .int) (a0 := (3200, .inl (fun _ => (0 : Int32)))) (N := 3200) (cA := cy 0) (by decide +kernel) rfl 0 rfl (fun _ => rfl) (by decide) (by decide) (Nat.le_of_ble_eq_true rfl) (by decide) (by decide) dX8_init_8 (fun q1 => ?_)
    refine g_weq (ws9 := [(h, .inr (7, [.null, .null, .null, .int 0])), (q1, .inl (cy 0, 3200, .inl (fun _ => 0)))]) rfl ?_
    refine g_putK X 0 (ref := "Cardcabinet$Sorter") (C := RX8) (T := TX8) (N := 4) (ci := 7) (fs := [.null, .null, .null, .int 0]) rfl hin8 rfl tyX8 tyX8_ok nmX8 1 (by decide) (by decide +kernel) (fun _ h9 => h9) rfl (ty := (.array .int)) (v := .ref q1) (by decide +kernel) rfl rfl (Nat.le_of_ble_eq_true rfl) dX8_init_10 (ws9 := [(h, .inr (7, [.null, .ref q1, .null, .int 0])), (q1, .inl (cy 0, 3200, .inl (fun _ => 0)))]) rfl ?_
    refine g_aload_n X dX8_init_13 rfl 0 rfl ?_
    refine g_sipush X dX8_init_14 (v := (3200 : Int32)) (by decide) ?_
    refine g_newa X (atype := .int) (a0 := (3200, .inl (fun _ => (0 : Int32)))) (N := 3200) (cA := cy 0) (by decide +kernel) rfl 0 rfl (fun _ => rfl) (by decide) (by decide) (Nat.le_of_ble_eq_true rfl) (by decide) (by decide) dX8_init_17 (fun q2 => ?_)
    refine g_weq (ws9 := [(h, .inr (7, [.null, .ref q1, .null, .int 0])), (q1, .inl (cy 0, 3200, .inl (fun _ => 0))), (q2, .inl (cy 0, 3200, .inl (fun _ => 0)))]) rfl ?_
    refine g_putK X 0 (ref := "Cardcabinet$Sorter") (C := RX8) (T := TX8) (N := 4) (ci := 7) (fs := [.null, .ref q1, .null, .int 0]) rfl hin8 rfl tyX8 tyX8_ok nmX8 2 (by decide) (by decide +kernel) (fun _ h9 => h9) rfl (ty := (.array .int)) (v := .ref q2) (by decide +kernel) rfl rfl (Nat.le_of_ble_eq_true rfl) dX8_init_19 (ws9 := [(h, .inr (7, [.null, .ref q1, .ref q2, .int 0])), (q1, .inl (cy 0, 3200, .inl (fun _ => 0))), (q2, .inl (cy 0, 3200, .inl (fun _ => 0)))]) rfl ?_
    refine g_aload_n X dX8_init_22 rfl 0 rfl ?_
    refine g_aload_n X dX8_init_23 rfl 1 rfl ?_
    refine g_putFK X 0 (ref := "Cardcabinet$Sorter") (C := RX8) (T := TX8) (N := 4) (ci := 7) (fs := [.null, .ref q1, .ref q2, .int 0]) rfl hin8 rfl tyX8 tyX8_ok nmX8 0 (by decide) (by decide +kernel) (fun _ h9 => h9) rfl hnm rfl (ty := (.object "Cardcabinet$Deck")) (v := .ref dk) (by decide +kernel) rfl rfl (Nat.le_of_ble_eq_true rfl) dX8_init_24 (ws9 := [(h, .inr (7, [.ref dk, .ref q1, .ref q2, .int 0])), (q1, .inl (cy 0, 3200, .inl (fun _ => 0))), (q2, .inl (cy 0, 3200, .inl (fun _ => 0)))]) rfl ?_
    exact g_vret (Wf := (fun u : Nat × Nat => [(h, .inr (7, [.ref dk, .ref u.1, .ref u.2, .int 0])), (u.1, .inl (cy 0, 3200, .inl (fun _ => 0))), (u.2, .inl (cy 0, 3200, .inl (fun _ => 0)))])) (u := (q1, q2)) X trivial dX8_init_27
  exact K0
end CI
def pW (cy : Nat → ClassId) (aK : Nat → Nat) (h t qa : Nat) (k : Nat) (aR : Nat → Nat) : va_W := [(h, .inr (4, [.ref t, .ref qa, .int 0])), (qa, .inl (cy 4, 50, .inr (.inr (.inr (.inr (fun i => if i < k then some (aR i) else none))))))] ++ ((List.range k).map (fun i => (aR i, .inr (6, [.ref (aK 0), .int 0, .int 0, .int 0, .int 0, .int 0]))))
theorem pW_len (cy : Nat → ClassId) (aK : Nat → Nat) (h t qa k : Nat) (aR : Nat → Nat) : (pW cy aK h t qa k aR).length = 2 + k := by
  unfold pW
  rw [List.length_append, List.length_map, List.length_range]; rfl
theorem pW_next (cy : Nat → ClassId) (aK : Nat → Nat) (h t qa k : Nat) (aR : Nat → Nat) (q : Nat) : ((pW cy aK h t qa k aR ++ [(q, .inr (6, [.ref (aK 0), .int 0, .int 0, .int 0, .int 0, .int 0]))] : va_W)).set 1 (qa, .inl (cy 4, 50, .inr (.inr (.inr (.inr (va_up (fun i => if i < k then some (aR i) else none) k (some q))))))) = pW cy aK h t qa (k + 1) (va_up aR k q) := by
  have hf : (va_up (fun i => if i < k then some (aR i) else none) k (some q)) = (fun i => if i < k + 1 then some (va_up aR k q i) else none) := by
    funext i
    unfold va_up
    by_cases h1 : i = k
    · rw [if_pos h1, if_pos (by omega), if_pos h1]
    · rw [if_neg h1, if_neg h1]
      show (if i < k then some (aR i) else none) = (if i < k + 1 then some (aR i) else none)
      by_cases h2 : i < k
      · rw [if_pos h2, if_pos (by omega)]
      · rw [if_neg h2, if_neg (by omega)]
  have hm : ((List.range (k + 1)).map (fun i => ((va_up aR k q i, .inr (6, [.ref (aK 0), .int 0, .int 0, .int 0, .int 0, .int 0])) : Nat × va_E))) = (List.range k).map (fun i => (aR i, .inr (6, [.ref (aK 0), .int 0, .int 0, .int 0, .int 0, .int 0]))) ++ [(q, .inr (6, [.ref (aK 0), .int 0, .int 0, .int 0, .int 0, .int 0]))] := by
    rw [List.range_succ, List.map_append]
    congr 1
    · exact List.map_congr_left fun i hi => by
        have := List.mem_range.mp hi
        rw [va_up_ne _ _ (by omega)]
    · show [((va_up aR k q k, .inr (6, [.ref (aK 0), .int 0, .int 0, .int 0, .int 0, .int 0])) : Nat × va_E)] = [(q, .inr (6, [.ref (aK 0), .int 0, .int 0, .int 0, .int 0, .int 0]))]
      rw [va_up_self]
  unfold pW
  rw [hm, hf]
  rfl
section PI
variable {cy : Nat → ClassId} {aK aO aS aV aT bS bV dA : Nat → Nat} {D : va_G} {l : Launch}
set_option maxHeartbeats 8000000 in
set_option maxRecDepth 100000 in
theorem c_X5_L {p : Program} {e : Env} {s : State} {m : MethodId} {args : Array Value} {below : List Frame} {meth : Method} {c : Code} {B : Nat → Prop} {h t qa : Nat} (X : gC (ZI aK aO aS aV aT bS bV dA) p s m args meth c D (cyT cy) B cX5_init wsX5_init RX5 3 none) : ∀ (d k : Nat) (aR : Nat → Nat), 50 - k = d → k ≤ 50 → gG p l e ({ frames := 2, cells := 51, slots := 350, locals := 32 } : Room) s m args below meth c D (cyT cy) B 3 (MQ below (va_Qv (fun _ : Nat × (Nat → Nat) => True) (gAt D (cyT cy) (fun u : Nat × (Nat → Nat) => ([(h, .inr (4, [.ref t, .ref u.1, .int 0])), (u.1, .inl (cy 4, 50, .inr (.inr (.inr (.inr (fun i => some (u.2 i)))))))] ++ ((List.range 50).map (fun i => (u.2 i, .inr (6, [.ref (aK 0), .int 0, .int 0, .int 0, .int 0, .int 0])))))) B) B) args s 51 350 B) (pW cy aK h t qa k aR) (1 + k) (50 + 6 * k) 20 [(2, .int (nI k)), (0, .ref h), (1, .ref t)] [] := by
  have hin5 : ∀ w ∈ u_ws RX5 TX5 3, w ∈ wsX5_init := by decide +kernel
  have hin7 : ∀ w ∈ u_ws RX7 TX7 6, w ∈ wsX5_init := by decide +kernel
  intro d
  induction d with
  | zero =>
    intro k aR hd hk
    have e : k = 50 := by omega
    subst e
    refine g_iload_n X dX5_init_20 rfl 0 rfl ?_
    refine g_bipush X dX5_init_21 (v := (50 : Int32)) (by decide) ?_
    refine g_icmp_ge X (tgt := 45) dX5_init_23 (by decide) (fun _ => ?_) (fun z => absurd (by decide) z)
    refine g_refsq 1 (f := fun i => if i < 50 then some (aR i) else none) (g := fun i => some (aR i)) (fun i hi => if_pos hi) (by rfl) (ws9 := (fun u : Nat × (Nat → Nat) => ([(h, .inr (4, [.ref t, .ref u.1, .int 0])), (u.1, .inl (cy 4, 50, .inr (.inr (.inr (.inr (fun i => some (u.2 i)))))))] ++ ((List.range 50).map (fun i => (u.2 i, .inr (6, [.ref (aK 0), .int 0, .int 0, .int 0, .int 0, .int 0])))))) (qa, aR)) (by rfl) ?_
    exact g_vret (post := fun _ : Nat × (Nat → Nat) => True) (Wf := (fun u : Nat × (Nat → Nat) => ([(h, .inr (4, [.ref t, .ref u.1, .int 0])), (u.1, .inl (cy 4, 50, .inr (.inr (.inr (.inr (fun i => some (u.2 i)))))))] ++ ((List.range 50).map (fun i => (u.2 i, .inr (6, [.ref (aK 0), .int 0, .int 0, .int 0, .int 0, .int 0]))))))) (u := (qa, aR)) X trivial dX5_init_45
  | succ d ih =>
    intro k aR hd hk
    refine g_iload_n X dX5_init_20 rfl 0 rfl ?_
    refine g_bipush X dX5_init_21 (v := (50 : Int32)) (by decide) ?_
    refine g_icmp_ge X (tgt := 45) dX5_init_23 (by decide) (fun z => absurd ((nq_le (a := 50) (b := k) (by omega) (by omega)).mp z) (by omega)) (fun _ => ?_)
    refine g_aload_n X dX5_init_26 rfl 1 rfl ?_
    refine g_getK X 0 (ref := "Cardcabinet$Parser") (C := RX5) (T := TX5) (N := 3) (ci := 4) (fs := [.ref t, .ref qa, .int 0]) rfl hin5 rfl 1 (by decide) (by decide +kernel) (fun _ h9 => h9) (v := .ref qa) rfl dX5_init_27 ?_
    refine g_iload_n X dX5_init_30 rfl 0 rfl ?_
    refine g_new X (C := RX7) (T := TX7) (N := 6) (ci := 6) (fs := [.null, .int 0, .int 0, .int 0, .int 0, .int 0]) hin7 tyX7 tyX7_ok (by decide +kernel) (by decide +kernel) (by decide +kernel) rfl (fun j hj => match j, hj with | 0, _ => rfl | 1, _ => rfl | 2, _ => rfl | 3, _ => rfl | 4, _ => rfl | 5, _ => rfl | j + 6, h => absurd h (by omega)) (show 1 + k + 1 ≤ 51 by omega) (show 50 + 6 * k + 6 ≤ 350 by omega) dX5_init_31 (fun q => ?_)
    refine g_dup X dX5_init_34 rfl ?_
    refine g_callCN (ws0 := pW cy aK h t qa k aR) (As := []) X (ZI_ok _ _ _ _ _ _ _ _) (c_X7_init q) ⟨va_cnB 0 X.1.2.2.2.2 gX5_init_X7_init_n21 rfl rfl rfl (X.2.2.2.1.1.1.1.2.2.2.2.2.2 (RX5, 21, yX7_init) (by simp [zN])) (X.1.2.2.2.2 _ (by decide +kernel)) (by decide +kernel) ⟨Nat.le_of_ble_eq_true rfl, Nat.le_of_ble_eq_true rfl⟩, rfl, X.1.2.2.2.2 _ (by decide +kernel)⟩ rfl rfl (Nat.le_of_ble_eq_true rfl) ⟨show 1 + k + 1 + 0 ≤ 51 by omega, show 50 + 6 * k + 6 + 0 ≤ 350 by omega⟩ dX5_init_35 (fun u hu => ?_)
    have hclamp : (nI k).toNatClampNeg = k := nq_clamp (by omega)
    refine g_astqK X 1 4 (2 + k) 6 (r := (RX7, TX7, 6)) (q := qa) (N := 50) (cA := cy 4) (f := fun i => if i < k then some (aR i) else none) (v := q) (vs := [.ref (aK 0), .int 0, .int 0, .int 0, .int 0, .int 0]) rfl rfl (by
      rw [List.getElem?_append_right (by rw [pW_len]; exact Nat.le_refl _), pW_len, Nat.sub_self]; rfl) rfl (vp_in_nI (by omega) (by decide)) dX5_init_38 (ws9 := pW cy aK h t qa (k + 1) (va_up aR k q)) (by rw [hclamp]; exact pW_next cy aK h t qa k aR q) ?_
    refine g_iinc X dX5_init_39 0 rfl (v := nI (k + 1)) (by exact nI_1 k) (by decide) (lv' := [(2, .int (nI (k + 1))), (0, .ref h), (1, .ref t)]) rfl ?_
    refine g_goto X (tgt := 20) dX5_init_42 (by decide) ?_
    exact g_wid (by omega) (by omega) (ih (k + 1) (va_up aR k q) (by omega) (by omega))
set_option maxHeartbeats 8000000 in
set_option maxRecDepth 100000 in
theorem c_X5_init (h t : Nat) : cV (ZI aK aO aS aV aT bS bV dA) D (cyT cy) l yX5_init wsX5_init ({ frames := 2, cells := 51, slots := 350, locals := 32 } : Room) [(h, .inr (4, [.null, .null, .int 0]))] [.ref h, .ref t] (fun _ : Nat × (Nat → Nat) => True) (fun u : Nat × (Nat → Nat) => ([(h, .inr (4, [.ref t, .ref u.1, .int 0])), (u.1, .inl (cy 4, 50, .inr (.inr (.inr (.inr (fun i => some (u.2 i)))))))] ++ ((List.range 50).map (fun i => (u.2 i, .inr (6, [.ref (aK 0), .int 0, .int 0, .int 0, .int 0, .int 0])))))) 51 350 := by
  refine cV_of (cc := cX5_init) (maxL := 3) (by decide) rfl (Nat.le_of_ble_eq_true rfl) (fun p e s m args below meth c B X hnm => ?_)
  have hin5 : ∀ w ∈ u_ws RX5 TX5 3, w ∈ wsX5_init := by decide +kernel
  have K0 : gG p l e ({ frames := 2, cells := 51, slots := 350, locals := 32 } : Room) s m args below meth c D (cyT cy) B 3 (MQ below (va_Qv (fun _ : Nat × (Nat → Nat) => True) (gAt D (cyT cy) (fun u : Nat × (Nat → Nat) => ([(h, .inr (4, [.ref t, .ref u.1, .int 0])), (u.1, .inl (cy 4, 50, .inr (.inr (.inr (.inr (fun i => some (u.2 i)))))))] ++ ((List.range 50).map (fun i => (u.2 i, .inr (6, [.ref (aK 0), .int 0, .int 0, .int 0, .int 0, .int 0])))))) B) B) args s 51 350 B) [(h, .inr (4, [.null, .null, .int 0]))] 0 0 0 [(0, .ref h), (1, .ref t)] [] := by
    refine g_aload_n X dX5_init_0 rfl 0 rfl ?_
    refine g_objI X (by decide +kernel) (by decide +kernel) (by decide +kernel) dX5_init_1 (by decide) (Nat.le_of_ble_eq_true rfl) ?_
    refine g_aload_n X dX5_init_4 rfl 0 rfl ?_
    refine g_bipush X dX5_init_5 (v := (50 : Int32)) (by decide) ?_
    refine g_newq X (C := "Cardcabinet$Run") (N := 50) (cA := cy 4) (by decide +kernel) X.2.2.2.1.2.2.1 4 rfl (by decide) (by decide) (by decide) (by decide) (by decide) dX5_init_7 (fun q1 => ?_)
    refine g_weq (ws9 := [(h, .inr (4, [.null, .null, .int 0])), (q1, .inl (cy 4, 50, .inr (.inr (.inr (.inr (fun _ => none))))))]) rfl ?_
    refine g_putFK X 0 (ref := "Cardcabinet$Parser") (C := RX5) (T := TX5) (N := 3) (ci := 4) (fs := [.null, .null, .int 0]) rfl hin5 rfl tyX5 tyX5_ok nmX5 1 (by decide) (by decide +kernel) (fun _ h9 => h9) rfl hnm rfl (ty := (.array (.object "Cardcabinet$Run"))) (v := .ref q1) (by decide +kernel) rfl rfl (Nat.le_of_ble_eq_true rfl) dX5_init_10 (ws9 := [(h, .inr (4, [.null, .ref q1, .int 0])), (q1, .inl (cy 4, 50, .inr (.inr (.inr (.inr (fun _ => none))))))]) rfl ?_
    refine g_aload_n X dX5_init_13 rfl 0 rfl ?_
    refine g_aload_n X dX5_init_14 rfl 1 rfl ?_
    refine g_putFK X 0 (ref := "Cardcabinet$Parser") (C := RX5) (T := TX5) (N := 3) (ci := 4) (fs := [.null, .ref q1, .int 0]) rfl hin5 rfl tyX5 tyX5_ok nmX5 0 (by decide) (by decide +kernel) (fun _ h9 => h9) rfl hnm rfl (ty := (.object "Cardcabinet$Text")) (v := .ref t) (by decide +kernel) rfl rfl (Nat.le_of_ble_eq_true rfl) dX5_init_15 (ws9 := [(h, .inr (4, [.ref t, .ref q1, .int 0])), (q1, .inl (cy 4, 50, .inr (.inr (.inr (.inr (fun _ => none))))))]) rfl ?_
    refine g_iconst X dX5_init_18 (v := (0 : Int32)) (by decide) ?_
    refine g_istore_n X dX5_init_19 rfl (by decide) (lv' := [(2, .int (0 : Int32)), (0, .ref h), (1, .ref t)]) rfl ?_
    exact c_X5_L X 50 0 (fun _ => 0) rfl (by decide)
  exact K0
end PI
