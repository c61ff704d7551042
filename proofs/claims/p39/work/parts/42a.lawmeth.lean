def hhL_done : List (Nat × Nat × Nat × Nat) := [(0, 89, 208, 139), (90, 95, 208, 139), (96, 104, 208, 139), (105, 113, 208, 139), (114, 119, 208, 139), (120, 125, 208, 139), (126, 132, 208, 139), (133, 139, 208, 139), (140, 145, 208, 139), (146, 154, 208, 139), (155, 161, 208, 139), (162, 167, 208, 139), (168, 173, 208, 139), (174, 179, 208, 139), (180, 186, 208, 139), (187, 192, 208, 139), (193, 201, 208, 139), (202, 207, 208, 139), (0, 89, 212, 141), (90, 95, 212, 141), (96, 104, 212, 141), (105, 113, 212, 141), (114, 119, 212, 141), (120, 125, 212, 141), (126, 132, 212, 141), (133, 139, 212, 141), (140, 145, 212, 141), (146, 154, 212, 141), (155, 161, 212, 141), (162, 167, 212, 141), (168, 173, 212, 141), (174, 179, 212, 141), (180, 186, 212, 141), (187, 192, 212, 141), (193, 201, 212, 141), (202, 207, 212, 141), (0, 89, 217, 77), (90, 95, 217, 77), (96, 104, 217, 77), (105, 113, 217, 77), (114, 119, 217, 77), (120, 125, 217, 77), (126, 132, 217, 77), (133, 139, 217, 77), (140, 145, 217, 77), (146, 154, 217, 77), (155, 161, 217, 77), (162, 167, 217, 77), (168, 173, 217, 77), (174, 179, 217, 77), (180, 186, 217, 77), (187, 192, 217, 77), (193, 201, 217, 77), (202, 207, 217, 77), (0, 89, 222, 143), (90, 95, 222, 143), (96, 104, 222, 143), (105, 113, 222, 143), (114, 119, 222, 143), (120, 125, 222, 143), (126, 132, 222, 143), (133, 139, 222, 143), (140, 145, 222, 143), (146, 154, 222, 143), (155, 161, 222, 143), (162, 167, 222, 143), (168, 173, 222, 143), (174, 179, 222, 143), (180, 186, 222, 143), (187, 192, 222, 143), (193, 201, 222, 143), (202, 207, 222, 143)]
def hhL_put : List (Nat × Nat × Nat × Nat) := [(0, 9, 10, 139), (0, 9, 14, 77)]
theorem thrC_1 {β : Type} (F : String) : 0 + thrC (Sum.inl F : String ⊕ β) ≤ 1 := Nat.le_refl 1
theorem thrS_1 {β : Type} (F : String) : 0 + thrS (Sum.inl F : String ⊕ β) ≤ 6 := Nat.le_refl 6
abbrev rmL_done : Room := { frames := 12, cells := 1, slots := 6, locals := 311 }
abbrev rmL_put : Room := { frames := 8, cells := 1, slots := 6, locals := 177 }
abbrev rmL_next : Room := { frames := 0, cells := 0, slots := 0, locals := 0 }
abbrev rmL_from : Room := { frames := 1, cells := 0, slots := 0, locals := 20 }
abbrev rmL_sees : Room := { frames := 8, cells := 0, slots := 0, locals := 176 }
abbrev rmL_copies : Room := { frames := 0, cells := 0, slots := 0, locals := 0 }
abbrev rmL_isLike : Room := { frames := 0, cells := 0, slots := 0, locals := 0 }
abbrev rmL_isAhead : Room := { frames := 0, cells := 0, slots := 0, locals := 0 }
abbrev rmL_due : Room := { frames := 1, cells := 0, slots := 0, locals := 24 }
abbrev rmL_sorts : Room := { frames := 13, cells := 3, slots := 18, locals := 336 }
abbrev rmL_sum : Room := { frames := 0, cells := 0, slots := 0, locals := 0 }
abbrev rmL_isBoth : Room := { frames := 13, cells := 5, slots := 30, locals := 336 }
abbrev rmL_sortsAll : Room := { frames := 9, cells := 1, slots := 6, locals := 201 }
abbrev rmL_moves : Room := { frames := 13, cells := 1, slots := 6, locals := 336 }
abbrev rmL_comes : Room := { frames := 13, cells := 3, slots := 18, locals := 336 }
section LV
variable {D : va_G} {cy : Nat → ClassId} {A aK aO aS aV aT bS bV dA B : Nat → Nat} {l : Launch} {X8 : va_W}
set_option maxHeartbeats 8000000 in
set_option maxRecDepth 100000 in
theorem m_L_done_0 {σ σ' ρ : St} {a1 a2 a3 a4 r : Int32} (hl : l.stackTraces = false) (h : catE "java/lang/IllegalStateException" (-3) (f_X10_lay a2 σ) = some (r, σ')) : wI (ZL aK aO aS aV aT bS bV dA) D (cyT cy) l yL_done wzL_done rmL_done (lWf cy A aK B X8) [.ref (A 0), .int 0, .int a2, .int a3, .int a4] (σ, ρ) r (σ', ρ) 1 6 := by
  refine wIT_of (cc := cL_done) (maxL := 6) (ret := (some .int)) (hh := hhL_done) (by decide) rfl (Nat.le_of_ble_eq_true rfl) (fun p e s m args below meth c B9 X hx => ?_)
  have K0 : gG p l e rmL_done s m args below meth c D (cyT cy) B9 6 (lIe (lWf cy A aK B X8) D (cyT cy) B9 below args s r (σ', ρ) 1 6) (lW cy A aK B X8 σ ρ) 0 0 0 [(0, .ref (A 0)), (1, .int 0), (2, .int a2), (3, .int a3), (4, .int a4)] [] := by
    refine g_iload_n X dL_done_0 rfl 1 rfl ?_
    refine g_tabIn X (offq := 83) (tgt := 84) dL_done_1 (by decide) (by decide) (by decide) (by decide) ?_
    refine g_aload_n X dL_done_84 rfl 0 rfl ?_
    refine g_iload_n X dL_done_85 rfl 2 rfl ?_
    rcases catE_some h with e0 | ⟨e0, rfl⟩
    · refine g_xVI_ret (AD := A) (As := [.int a2]) X (ZL_ok _ _ _ _ _ _ _ _) (xI_up (m_X10_lay hl e0)) (cwV 1 X.1.2.2.2.2 gZL_done_X10_lay rfl rfl rfl (by decide +kernel) ⟨Nat.le_of_ble_eq_true rfl, Nat.le_of_ble_eq_true rfl⟩) rfl cm0 (cE_0 cy A aK σ) rfl rfl (Nat.le_of_ble_eq_true rfl) ⟨thrC_r _ _, thrS_r _ _⟩ dL_done_86 (k' := 0) (n' := 0) (thrC_r _ _) (thrS_r _ _) ?_
      refine g_wid (k' := 1) (n' := 6) (by decide) (by decide) ?_
      exact g_iret (Wf := lWf cy A aK B X8) (u := (σ', ρ)) X ⟨rfl, rfl⟩ dL_done_89
    · refine g_xVI_cat (AD := A) (As := [.int a2]) (E0 := "java/lang/IllegalStateException") (name := "java/lang/IllegalStateException") X (ZL_ok _ _ _ _ _ _ _ _) (xI_up (m_X10_lay hl e0)) (cwV 1 X.1.2.2.2.2 gZL_done_X10_lay rfl rfl rfl (by decide +kernel) ⟨Nat.le_of_ble_eq_true rfl, Nat.le_of_ble_eq_true rfl⟩) rfl cm0 (cE_0 cy A aK σ) rfl rfl (Nat.le_of_ble_eq_true rfl) ⟨thrC_1 _, thrS_1 _⟩ dL_done_86 (k' := 1) (n' := 6) (thrC_1 _) (thrS_1 _) ((tableOf hhL_done).take 36) ⟨0, 89, 217, 77⟩ ((tableOf hhL_done).drop 37) (by rw [hx]; rfl) (pass_of (S9 := [(139, "java/lang/IndexOutOfBoundsException"), (141, "java/lang/IllegalArgumentException")]) (by decide) (fun q hq => by
        simp only [List.mem_cons, List.not_mem_nil, or_false] at hq
        rcases hq with rfl | rfl
        · exact ⟨by decide, X.1.2.2.2.2 _ (by decide +kernel), X.2.2.2.1.2.1 "java/lang/IllegalStateException" (by decide) "java/lang/IndexOutOfBoundsException" (by decide) (by decide)⟩
        · exact ⟨by decide, X.1.2.2.2.2 _ (by decide +kernel), X.2.2.2.1.2.1 "java/lang/IllegalStateException" (by decide) "java/lang/IllegalArgumentException" (by decide) (by decide)⟩)) (by decide) (by decide) (X.1.2.2.2.2 _ (by decide +kernel)) (va_Nw.use rfl (X.2.2.2.1.1.1.2.2.2.2.1 _ (by decide))) (fun q9 => ?_)
      refine g_astore X dL_done_217 (by decide) rfl ?_
      refine g_bipush X dL_done_219 (v := (-3 : Int32)) (by decide) ?_
      exact g_iret (Wf := lWf cy A aK B X8) (u := (σ', ρ)) X ⟨rfl, rfl⟩ dL_done_221
  exact K0
set_option maxHeartbeats 8000000 in
set_option maxRecDepth 100000 in
theorem m_L_done_1 {σ σ' ρ : St} {a1 a2 a3 a4 r : Int32} (hl : l.stackTraces = false) (h : catE "java/lang/IndexOutOfBoundsException" (-1) (f_X10_sort a2 σ) = some (r, σ')) : wI (ZL aK aO aS aV aT bS bV dA) D (cyT cy) l yL_done wzL_done rmL_done (lWf cy A aK B X8) [.ref (A 0), .int 1, .int a2, .int a3, .int a4] (σ, ρ) r (σ', ρ) 1 6 := by
  refine wIT_of (cc := cL_done) (maxL := 6) (ret := (some .int)) (hh := hhL_done) (by decide) rfl (Nat.le_of_ble_eq_true rfl) (fun p e s m args below meth c B9 X hx => ?_)
  have K0 : gG p l e rmL_done s m args below meth c D (cyT cy) B9 6 (lIe (lWf cy A aK B X8) D (cyT cy) B9 below args s r (σ', ρ) 1 6) (lW cy A aK B X8 σ ρ) 0 0 0 [(0, .ref (A 0)), (1, .int 1), (2, .int a2), (3, .int a3), (4, .int a4)] [] := by
    refine g_iload_n X dL_done_0 rfl 1 rfl ?_
    refine g_tabIn X (offq := 89) (tgt := 90) dL_done_1 (by decide) (by decide) (by decide) (by decide) ?_
    refine g_aload_n X dL_done_90 rfl 0 rfl ?_
    refine g_iload_n X dL_done_91 rfl 2 rfl ?_
    rcases catE_some h with e0 | ⟨e0, rfl⟩
    · refine g_xVI_ret (AD := A) (As := [.int a2]) X (ZL_ok _ _ _ _ _ _ _ _) (xI_up (m_X10_sort hl e0)) (cwV 1 X.1.2.2.2.2 gZL_done_X10_sort rfl rfl rfl (by decide +kernel) ⟨Nat.le_of_ble_eq_true rfl, Nat.le_of_ble_eq_true rfl⟩) rfl cm0 (cE_0 cy A aK σ) rfl rfl (Nat.le_of_ble_eq_true rfl) ⟨thrC_r _ _, thrS_r _ _⟩ dL_done_92 (k' := 0) (n' := 0) (thrC_r _ _) (thrS_r _ _) ?_
      refine g_wid (k' := 1) (n' := 6) (by decide) (by decide) ?_
      exact g_iret (Wf := lWf cy A aK B X8) (u := (σ', ρ)) X ⟨rfl, rfl⟩ dL_done_95
    · refine g_xVI_cat (AD := A) (As := [.int a2]) (E0 := "java/lang/IndexOutOfBoundsException") (name := "java/lang/IndexOutOfBoundsException") X (ZL_ok _ _ _ _ _ _ _ _) (xI_up (m_X10_sort hl e0)) (cwV 1 X.1.2.2.2.2 gZL_done_X10_sort rfl rfl rfl (by decide +kernel) ⟨Nat.le_of_ble_eq_true rfl, Nat.le_of_ble_eq_true rfl⟩) rfl cm0 (cE_0 cy A aK σ) rfl rfl (Nat.le_of_ble_eq_true rfl) ⟨thrC_1 _, thrS_1 _⟩ dL_done_92 (k' := 1) (n' := 6) (thrC_1 _) (thrS_1 _) ((tableOf hhL_done).take 1) ⟨90, 95, 208, 139⟩ ((tableOf hhL_done).drop 2) (by rw [hx]; rfl) (pass_of (S9 := []) (by decide) (fun q hq => nomatch hq)) (by decide) (by decide) (X.1.2.2.2.2 _ (by decide +kernel)) (va_Nw.use rfl (X.2.2.2.1.1.1.2.2.2.2.1 _ (by decide))) (fun q9 => ?_)
      refine g_astore X dL_done_208 (by decide) rfl ?_
      refine g_iconst X dL_done_210 (v := (-1 : Int32)) (by decide) ?_
      exact g_iret (Wf := lWf cy A aK B X8) (u := (σ', ρ)) X ⟨rfl, rfl⟩ dL_done_211
  exact K0
set_option maxHeartbeats 8000000 in
set_option maxRecDepth 100000 in
theorem m_L_done_2 {σ σ' ρ : St} {a1 a2 a3 a4 r : Int32} (hl : l.stackTraces = false) (h : cat2 "java/lang/IndexOutOfBoundsException" "java/lang/IllegalArgumentException" (-1) (-2) (f_X10_sortPart a2 a3 a4 σ) = some (r, σ')) : wI (ZL aK aO aS aV aT bS bV dA) D (cyT cy) l yL_done wzL_done rmL_done (lWf cy A aK B X8) [.ref (A 0), .int 2, .int a2, .int a3, .int a4] (σ, ρ) r (σ', ρ) 1 6 := by
  refine wIT_of (cc := cL_done) (maxL := 6) (ret := (some .int)) (hh := hhL_done) (by decide) rfl (Nat.le_of_ble_eq_true rfl) (fun p e s m args below meth c B9 X hx => ?_)
  have K0 : gG p l e rmL_done s m args below meth c D (cyT cy) B9 6 (lIe (lWf cy A aK B X8) D (cyT cy) B9 below args s r (σ', ρ) 1 6) (lW cy A aK B X8 σ ρ) 0 0 0 [(0, .ref (A 0)), (1, .int 2), (2, .int a2), (3, .int a3), (4, .int a4)] [] := by
    refine g_iload_n X dL_done_0 rfl 1 rfl ?_
    refine g_tabIn X (offq := 95) (tgt := 96) dL_done_1 (by decide) (by decide) (by decide) (by decide) ?_
    refine g_aload_n X dL_done_96 rfl 0 rfl ?_
    refine g_iload_n X dL_done_97 rfl 2 rfl ?_
    refine g_iload_n X dL_done_98 rfl 3 rfl ?_
    refine g_iload X dL_done_99 4 rfl ?_
    rcases cat2_some h with e0 | ⟨e0, rfl⟩ | ⟨e0, rfl⟩
    · refine g_xVI_ret (AD := A) (As := [.int a2, .int a3, .int a4]) X (ZL_ok _ _ _ _ _ _ _ _) (xI_up (m_X10_sortPart hl e0)) (cwV 3 X.1.2.2.2.2 gZL_done_X10_sortPart rfl rfl rfl (by decide +kernel) ⟨Nat.le_of_ble_eq_true rfl, Nat.le_of_ble_eq_true rfl⟩) rfl cm0 (cE_0 cy A aK σ) rfl rfl (Nat.le_of_ble_eq_true rfl) ⟨thrC_r _ _, thrS_r _ _⟩ dL_done_101 (k' := 0) (n' := 0) (thrC_r _ _) (thrS_r _ _) ?_
      refine g_wid (k' := 1) (n' := 6) (by decide) (by decide) ?_
      exact g_iret (Wf := lWf cy A aK B X8) (u := (σ', ρ)) X ⟨rfl, rfl⟩ dL_done_104
    · refine g_xVI_cat (AD := A) (As := [.int a2, .int a3, .int a4]) (E0 := "java/lang/IndexOutOfBoundsException") (name := "java/lang/IndexOutOfBoundsException") X (ZL_ok _ _ _ _ _ _ _ _) (xI_up (m_X10_sortPart hl e0)) (cwV 3 X.1.2.2.2.2 gZL_done_X10_sortPart rfl rfl rfl (by decide +kernel) ⟨Nat.le_of_ble_eq_true rfl, Nat.le_of_ble_eq_true rfl⟩) rfl cm0 (cE_0 cy A aK σ) rfl rfl (Nat.le_of_ble_eq_true rfl) ⟨thrC_1 _, thrS_1 _⟩ dL_done_101 (k' := 1) (n' := 6) (thrC_1 _) (thrS_1 _) ((tableOf hhL_done).take 2) ⟨96, 104, 208, 139⟩ ((tableOf hhL_done).drop 3) (by rw [hx]; rfl) (pass_of (S9 := []) (by decide) (fun q hq => nomatch hq)) (by decide) (by decide) (X.1.2.2.2.2 _ (by decide +kernel)) (va_Nw.use rfl (X.2.2.2.1.1.1.2.2.2.2.1 _ (by decide))) (fun q9 => ?_)
      refine g_astore X dL_done_208 (by decide) rfl ?_
      refine g_iconst X dL_done_210 (v := (-1 : Int32)) (by decide) ?_
      exact g_iret (Wf := lWf cy A aK B X8) (u := (σ', ρ)) X ⟨rfl, rfl⟩ dL_done_211
    · refine g_xVI_cat (AD := A) (As := [.int a2, .int a3, .int a4]) (E0 := "java/lang/IllegalArgumentException") (name := "java/lang/IllegalArgumentException") X (ZL_ok _ _ _ _ _ _ _ _) (xI_up (m_X10_sortPart hl e0)) (cwV 3 X.1.2.2.2.2 gZL_done_X10_sortPart rfl rfl rfl (by decide +kernel) ⟨Nat.le_of_ble_eq_true rfl, Nat.le_of_ble_eq_true rfl⟩) rfl cm0 (cE_0 cy A aK σ) rfl rfl (Nat.le_of_ble_eq_true rfl) ⟨thrC_1 _, thrS_1 _⟩ dL_done_101 (k' := 1) (n' := 6) (thrC_1 _) (thrS_1 _) ((tableOf hhL_done).take 20) ⟨96, 104, 212, 141⟩ ((tableOf hhL_done).drop 21) (by rw [hx]; rfl) (pass_of (S9 := [(139, "java/lang/IndexOutOfBoundsException")]) (by decide) (fun q hq => by
        simp only [List.mem_cons, List.not_mem_nil, or_false] at hq
        rcases hq with rfl
        · exact ⟨by decide, X.1.2.2.2.2 _ (by decide +kernel), X.2.2.2.1.2.1 "java/lang/IllegalArgumentException" (by decide) "java/lang/IndexOutOfBoundsException" (by decide) (by decide)⟩)) (by decide) (by decide) (X.1.2.2.2.2 _ (by decide +kernel)) (va_Nw.use rfl (X.2.2.2.1.1.1.2.2.2.2.1 _ (by decide))) (fun q9 => ?_)
      refine g_astore X dL_done_212 (by decide) rfl ?_
      refine g_bipush X dL_done_214 (v := (-2 : Int32)) (by decide) ?_
      exact g_iret (Wf := lWf cy A aK B X8) (u := (σ', ρ)) X ⟨rfl, rfl⟩ dL_done_216
  exact K0
set_option maxHeartbeats 8000000 in
set_option maxRecDepth 100000 in
theorem m_L_done_3 {σ σ' ρ : St} {a1 a2 a3 a4 r : Int32} (hl : l.stackTraces = false) (h : cat0 (f_X10_sortDown a2 a3 a4 σ) = some (r, σ')) : wI (ZL aK aO aS aV aT bS bV dA) D (cyT cy) l yL_done wzL_done rmL_done (lWf cy A aK B X8) [.ref (A 0), .int 3, .int a2, .int a3, .int a4] (σ, ρ) r (σ', ρ) 1 6 := by
  refine wIT_of (cc := cL_done) (maxL := 6) (ret := (some .int)) (hh := hhL_done) (by decide) rfl (Nat.le_of_ble_eq_true rfl) (fun p e s m args below meth c B9 X hx => ?_)
  have K0 : gG p l e rmL_done s m args below meth c D (cyT cy) B9 6 (lIe (lWf cy A aK B X8) D (cyT cy) B9 below args s r (σ', ρ) 1 6) (lW cy A aK B X8 σ ρ) 0 0 0 [(0, .ref (A 0)), (1, .int 3), (2, .int a2), (3, .int a3), (4, .int a4)] [] := by
    refine g_iload_n X dL_done_0 rfl 1 rfl ?_
    refine g_tabIn X (offq := 104) (tgt := 105) dL_done_1 (by decide) (by decide) (by decide) (by decide) ?_
    refine g_aload_n X dL_done_105 rfl 0 rfl ?_
    refine g_iload_n X dL_done_106 rfl 2 rfl ?_
    refine g_iload_n X dL_done_107 rfl 3 rfl ?_
    refine g_iload X dL_done_108 4 rfl ?_
    have e0 := cat0_some h
    refine g_xVI_ret (AD := A) (As := [.int a2, .int a3, .int a4]) X (ZL_ok _ _ _ _ _ _ _ _) (xI_up (m_X10_sortDown hl e0)) (cwV 3 X.1.2.2.2.2 gZL_done_X10_sortDown rfl rfl rfl (by decide +kernel) ⟨Nat.le_of_ble_eq_true rfl, Nat.le_of_ble_eq_true rfl⟩) rfl cm0 (cE_0 cy A aK σ) rfl rfl (Nat.le_of_ble_eq_true rfl) ⟨thrC_r _ _, thrS_r _ _⟩ dL_done_110 (k' := 0) (n' := 0) (thrC_r _ _) (thrS_r _ _) ?_
    refine g_wid (k' := 1) (n' := 6) (by decide) (by decide) ?_
    exact g_iret (Wf := lWf cy A aK B X8) (u := (σ', ρ)) X ⟨rfl, rfl⟩ dL_done_113
  exact K0
set_option maxHeartbeats 8000000 in
set_option maxRecDepth 100000 in
theorem m_L_done_4 {σ σ' ρ : St} {a1 a2 a3 a4 r : Int32} (hl : l.stackTraces = false) (h : cat0 (f_X10_sortBySecond a2 σ) = some (r, σ')) : wI (ZL aK aO aS aV aT bS bV dA) D (cyT cy) l yL_done wzL_done rmL_done (lWf cy A aK B X8) [.ref (A 0), .int 4, .int a2, .int a3, .int a4] (σ, ρ) r (σ', ρ) 1 6 := by
  refine wIT_of (cc := cL_done) (maxL := 6) (ret := (some .int)) (hh := hhL_done) (by decide) rfl (Nat.le_of_ble_eq_true rfl) (fun p e s m args below meth c B9 X hx => ?_)
  have K0 : gG p l e rmL_done s m args below meth c D (cyT cy) B9 6 (lIe (lWf cy A aK B X8) D (cyT cy) B9 below args s r (σ', ρ) 1 6) (lW cy A aK B X8 σ ρ) 0 0 0 [(0, .ref (A 0)), (1, .int 4), (2, .int a2), (3, .int a3), (4, .int a4)] [] := by
    refine g_iload_n X dL_done_0 rfl 1 rfl ?_
    refine g_tabIn X (offq := 113) (tgt := 114) dL_done_1 (by decide) (by decide) (by decide) (by decide) ?_
    refine g_aload_n X dL_done_114 rfl 0 rfl ?_
    refine g_iload_n X dL_done_115 rfl 2 rfl ?_
    have e0 := cat0_some h
    refine g_xVI_ret (AD := A) (As := [.int a2]) X (ZL_ok _ _ _ _ _ _ _ _) (xI_up (m_X10_sortBySecond hl e0)) (cwV 1 X.1.2.2.2.2 gZL_done_X10_sortBySecond rfl rfl rfl (by decide +kernel) ⟨Nat.le_of_ble_eq_true rfl, Nat.le_of_ble_eq_true rfl⟩) rfl cm0 (cE_0 cy A aK σ) rfl rfl (Nat.le_of_ble_eq_true rfl) ⟨thrC_r _ _, thrS_r _ _⟩ dL_done_116 (k' := 0) (n' := 0) (thrC_r _ _) (thrS_r _ _) ?_
    refine g_wid (k' := 1) (n' := 6) (by decide) (by decide) ?_
    exact g_iret (Wf := lWf cy A aK B X8) (u := (σ', ρ)) X ⟨rfl, rfl⟩ dL_done_119
  exact K0
set_option maxHeartbeats 8000000 in
set_option maxRecDepth 100000 in
theorem m_L_done_5 {σ σ' ρ : St} {a1 a2 a3 a4 r : Int32} (hl : l.stackTraces = false) (h : cat0 (f_X10_sortByBoth a2 σ) = some (r, σ')) : wI (ZL aK aO aS aV aT bS bV dA) D (cyT cy) l yL_done wzL_done rmL_done (lWf cy A aK B X8) [.ref (A 0), .int 5, .int a2, .int a3, .int a4] (σ, ρ) r (σ', ρ) 1 6 := by
  refine wIT_of (cc := cL_done) (maxL := 6) (ret := (some .int)) (hh := hhL_done) (by decide) rfl (Nat.le_of_ble_eq_true rfl) (fun p e s m args below meth c B9 X hx => ?_)
  have K0 : gG p l e rmL_done s m args below meth c D (cyT cy) B9 6 (lIe (lWf cy A aK B X8) D (cyT cy) B9 below args s r (σ', ρ) 1 6) (lW cy A aK B X8 σ ρ) 0 0 0 [(0, .ref (A 0)), (1, .int 5), (2, .int a2), (3, .int a3), (4, .int a4)] [] := by
    refine g_iload_n X dL_done_0 rfl 1 rfl ?_
    refine g_tabIn X (offq := 119) (tgt := 120) dL_done_1 (by decide) (by decide) (by decide) (by decide) ?_
    refine g_aload_n X dL_done_120 rfl 0 rfl ?_
    refine g_iload_n X dL_done_121 rfl 2 rfl ?_
    have e0 := cat0_some h
    refine g_xVI_ret (AD := A) (As := [.int a2]) X (ZL_ok _ _ _ _ _ _ _ _) (xI_up (m_X10_sortByBoth hl e0)) (cwV 1 X.1.2.2.2.2 gZL_done_X10_sortByBoth rfl rfl rfl (by decide +kernel) ⟨Nat.le_of_ble_eq_true rfl, Nat.le_of_ble_eq_true rfl⟩) rfl cm0 (cE_0 cy A aK σ) rfl rfl (Nat.le_of_ble_eq_true rfl) ⟨thrC_r _ _, thrS_r _ _⟩ dL_done_122 (k' := 0) (n' := 0) (thrC_r _ _) (thrS_r _ _) ?_
    refine g_wid (k' := 1) (n' := 6) (by decide) (by decide) ?_
    exact g_iret (Wf := lWf cy A aK B X8) (u := (σ', ρ)) X ⟨rfl, rfl⟩ dL_done_125
  exact K0
set_option maxHeartbeats 8000000 in
set_option maxRecDepth 100000 in
theorem m_L_done_6 {σ σ' ρ : St} {a1 a2 a3 a4 r : Int32} (hl : l.stackTraces = false) (h : cat2 "java/lang/IllegalArgumentException" "java/lang/IllegalStateException" (-2) (-3) (f_X10_pour a2 a3 σ) = some (r, σ')) : wI (ZL aK aO aS aV aT bS bV dA) D (cyT cy) l yL_done wzL_done rmL_done (lWf cy A aK B X8) [.ref (A 0), .int 6, .int a2, .int a3, .int a4] (σ, ρ) r (σ', ρ) 1 6 := by
  refine wIT_of (cc := cL_done) (maxL := 6) (ret := (some .int)) (hh := hhL_done) (by decide) rfl (Nat.le_of_ble_eq_true rfl) (fun p e s m args below meth c B9 X hx => ?_)
  have K0 : gG p l e rmL_done s m args below meth c D (cyT cy) B9 6 (lIe (lWf cy A aK B X8) D (cyT cy) B9 below args s r (σ', ρ) 1 6) (lW cy A aK B X8 σ ρ) 0 0 0 [(0, .ref (A 0)), (1, .int 6), (2, .int a2), (3, .int a3), (4, .int a4)] [] := by
    refine g_iload_n X dL_done_0 rfl 1 rfl ?_
    refine g_tabIn X (offq := 125) (tgt := 126) dL_done_1 (by decide) (by decide) (by decide) (by decide) ?_
    refine g_aload_n X dL_done_126 rfl 0 rfl ?_
    refine g_iload_n X dL_done_127 rfl 2 rfl ?_
    refine g_iload_n X dL_done_128 rfl 3 rfl ?_
    rcases cat2_some h with e0 | ⟨e0, rfl⟩ | ⟨e0, rfl⟩
    · refine g_xVI_ret (AD := A) (As := [.int a2, .int a3]) X (ZL_ok _ _ _ _ _ _ _ _) (xI_up (m_X10_pour hl e0)) (cwV 2 X.1.2.2.2.2 gZL_done_X10_pour rfl rfl rfl (by decide +kernel) ⟨Nat.le_of_ble_eq_true rfl, Nat.le_of_ble_eq_true rfl⟩) rfl cm0 (cE_0 cy A aK σ) rfl rfl (Nat.le_of_ble_eq_true rfl) ⟨thrC_r _ _, thrS_r _ _⟩ dL_done_129 (k' := 0) (n' := 0) (thrC_r _ _) (thrS_r _ _) ?_
      refine g_wid (k' := 1) (n' := 6) (by decide) (by decide) ?_
      exact g_iret (Wf := lWf cy A aK B X8) (u := (σ', ρ)) X ⟨rfl, rfl⟩ dL_done_132
    · refine g_xVI_cat (AD := A) (As := [.int a2, .int a3]) (E0 := "java/lang/IllegalArgumentException") (name := "java/lang/IllegalArgumentException") X (ZL_ok _ _ _ _ _ _ _ _) (xI_up (m_X10_pour hl e0)) (cwV 2 X.1.2.2.2.2 gZL_done_X10_pour rfl rfl rfl (by decide +kernel) ⟨Nat.le_of_ble_eq_true rfl, Nat.le_of_ble_eq_true rfl⟩) rfl cm0 (cE_0 cy A aK σ) rfl rfl (Nat.le_of_ble_eq_true rfl) ⟨thrC_1 _, thrS_1 _⟩ dL_done_129 (k' := 1) (n' := 6) (thrC_1 _) (thrS_1 _) ((tableOf hhL_done).take 24) ⟨126, 132, 212, 141⟩ ((tableOf hhL_done).drop 25) (by rw [hx]; rfl) (pass_of (S9 := [(139, "java/lang/IndexOutOfBoundsException")]) (by decide) (fun q hq => by
        simp only [List.mem_cons, List.not_mem_nil, or_false] at hq
        rcases hq with rfl
        · exact ⟨by decide, X.1.2.2.2.2 _ (by decide +kernel), X.2.2.2.1.2.1 "java/lang/IllegalArgumentException" (by decide) "java/lang/IndexOutOfBoundsException" (by decide) (by decide)⟩)) (by decide) (by decide) (X.1.2.2.2.2 _ (by decide +kernel)) (va_Nw.use rfl (X.2.2.2.1.1.1.2.2.2.2.1 _ (by decide))) (fun q9 => ?_)
      refine g_astore X dL_done_212 (by decide) rfl ?_
      refine g_bipush X dL_done_214 (v := (-2 : Int32)) (by decide) ?_
      exact g_iret (Wf := lWf cy A aK B X8) (u := (σ', ρ)) X ⟨rfl, rfl⟩ dL_done_216
    · refine g_xVI_cat (AD := A) (As := [.int a2, .int a3]) (E0 := "java/lang/IllegalStateException") (name := "java/lang/IllegalStateException") X (ZL_ok _ _ _ _ _ _ _ _) (xI_up (m_X10_pour hl e0)) (cwV 2 X.1.2.2.2.2 gZL_done_X10_pour rfl rfl rfl (by decide +kernel) ⟨Nat.le_of_ble_eq_true rfl, Nat.le_of_ble_eq_true rfl⟩) rfl cm0 (cE_0 cy A aK σ) rfl rfl (Nat.le_of_ble_eq_true rfl) ⟨thrC_1 _, thrS_1 _⟩ dL_done_129 (k' := 1) (n' := 6) (thrC_1 _) (thrS_1 _) ((tableOf hhL_done).take 42) ⟨126, 132, 217, 77⟩ ((tableOf hhL_done).drop 43) (by rw [hx]; rfl) (pass_of (S9 := [(139, "java/lang/IndexOutOfBoundsException"), (141, "java/lang/IllegalArgumentException")]) (by decide) (fun q hq => by
        simp only [List.mem_cons, List.not_mem_nil, or_false] at hq
        rcases hq with rfl | rfl
        · exact ⟨by decide, X.1.2.2.2.2 _ (by decide +kernel), X.2.2.2.1.2.1 "java/lang/IllegalStateException" (by decide) "java/lang/IndexOutOfBoundsException" (by decide) (by decide)⟩
        · exact ⟨by decide, X.1.2.2.2.2 _ (by decide +kernel), X.2.2.2.1.2.1 "java/lang/IllegalStateException" (by decide) "java/lang/IllegalArgumentException" (by decide) (by decide)⟩)) (by decide) (by decide) (X.1.2.2.2.2 _ (by decide +kernel)) (va_Nw.use rfl (X.2.2.2.1.1.1.2.2.2.2.1 _ (by decide))) (fun q9 => ?_)
      refine g_astore X dL_done_217 (by decide) rfl ?_
      refine g_bipush X dL_done_219 (v := (-3 : Int32)) (by decide) ?_
      exact g_iret (Wf := lWf cy A aK B X8) (u := (σ', ρ)) X ⟨rfl, rfl⟩ dL_done_221
  exact K0
set_option maxHeartbeats 8000000 in
set_option maxRecDepth 100000 in
theorem m_L_done_7 {σ σ' ρ : St} {a1 a2 a3 a4 r : Int32} (hl : l.stackTraces = false) (h : catE "java/lang/IllegalStateException" (-3) (f_X10_deal a2 a3 σ) = some (r, σ')) : wI (ZL aK aO aS aV aT bS bV dA) D (cyT cy) l yL_done wzL_done rmL_done (lWf cy A aK B X8) [.ref (A 0), .int 7, .int a2, .int a3, .int a4] (σ, ρ) r (σ', ρ) 1 6 := by
  refine wIT_of (cc := cL_done) (maxL := 6) (ret := (some .int)) (hh := hhL_done) (by decide) rfl (Nat.le_of_ble_eq_true rfl) (fun p e s m args below meth c B9 X hx => ?_)
  have K0 : gG p l e rmL_done s m args below meth c D (cyT cy) B9 6 (lIe (lWf cy A aK B X8) D (cyT cy) B9 below args s r (σ', ρ) 1 6) (lW cy A aK B X8 σ ρ) 0 0 0 [(0, .ref (A 0)), (1, .int 7), (2, .int a2), (3, .int a3), (4, .int a4)] [] := by
    refine g_iload_n X dL_done_0 rfl 1 rfl ?_
    refine g_tabIn X (offq := 132) (tgt := 133) dL_done_1 (by decide) (by decide) (by decide) (by decide) ?_
    refine g_aload_n X dL_done_133 rfl 0 rfl ?_
    refine g_iload_n X dL_done_134 rfl 2 rfl ?_
    refine g_iload_n X dL_done_135 rfl 3 rfl ?_
    rcases catE_some h with e0 | ⟨e0, rfl⟩
    · refine g_xVI_ret (AD := A) (As := [.int a2, .int a3]) X (ZL_ok _ _ _ _ _ _ _ _) (xI_up (m_X10_deal hl e0)) (cwV 2 X.1.2.2.2.2 gZL_done_X10_deal rfl rfl rfl (by decide +kernel) ⟨Nat.le_of_ble_eq_true rfl, Nat.le_of_ble_eq_true rfl⟩) rfl cm0 (cE_0 cy A aK σ) rfl rfl (Nat.le_of_ble_eq_true rfl) ⟨thrC_r _ _, thrS_r _ _⟩ dL_done_136 (k' := 0) (n' := 0) (thrC_r _ _) (thrS_r _ _) ?_
      refine g_wid (k' := 1) (n' := 6) (by decide) (by decide) ?_
      exact g_iret (Wf := lWf cy A aK B X8) (u := (σ', ρ)) X ⟨rfl, rfl⟩ dL_done_139
    · refine g_xVI_cat (AD := A) (As := [.int a2, .int a3]) (E0 := "java/lang/IllegalStateException") (name := "java/lang/IllegalStateException") X (ZL_ok _ _ _ _ _ _ _ _) (xI_up (m_X10_deal hl e0)) (cwV 2 X.1.2.2.2.2 gZL_done_X10_deal rfl rfl rfl (by decide +kernel) ⟨Nat.le_of_ble_eq_true rfl, Nat.le_of_ble_eq_true rfl⟩) rfl cm0 (cE_0 cy A aK σ) rfl rfl (Nat.le_of_ble_eq_true rfl) ⟨thrC_1 _, thrS_1 _⟩ dL_done_136 (k' := 1) (n' := 6) (thrC_1 _) (thrS_1 _) ((tableOf hhL_done).take 43) ⟨133, 139, 217, 77⟩ ((tableOf hhL_done).drop 44) (by rw [hx]; rfl) (pass_of (S9 := [(139, "java/lang/IndexOutOfBoundsException"), (141, "java/lang/IllegalArgumentException")]) (by decide) (fun q hq => by
        simp only [List.mem_cons, List.not_mem_nil, or_false] at hq
        rcases hq with rfl | rfl
        · exact ⟨by decide, X.1.2.2.2.2 _ (by decide +kernel), X.2.2.2.1.2.1 "java/lang/IllegalStateException" (by decide) "java/lang/IndexOutOfBoundsException" (by decide) (by decide)⟩
        · exact ⟨by decide, X.1.2.2.2.2 _ (by decide +kernel), X.2.2.2.1.2.1 "java/lang/IllegalStateException" (by decide) "java/lang/IllegalArgumentException" (by decide) (by decide)⟩)) (by decide) (by decide) (X.1.2.2.2.2 _ (by decide +kernel)) (va_Nw.use rfl (X.2.2.2.1.1.1.2.2.2.2.1 _ (by decide))) (fun q9 => ?_)
      refine g_astore X dL_done_217 (by decide) rfl ?_
      refine g_bipush X dL_done_219 (v := (-3 : Int32)) (by decide) ?_
      exact g_iret (Wf := lWf cy A aK B X8) (u := (σ', ρ)) X ⟨rfl, rfl⟩ dL_done_221
  exact K0
set_option maxHeartbeats 8000000 in
set_option maxRecDepth 100000 in
theorem m_L_done_8 {σ σ' ρ : St} {a1 a2 a3 a4 r : Int32} (hl : l.stackTraces = false) (h : cat0 (f_X10_turn a2 σ) = some (r, σ')) : wI (ZL aK aO aS aV aT bS bV dA) D (cyT cy) l yL_done wzL_done rmL_done (lWf cy A aK B X8) [.ref (A 0), .int 8, .int a2, .int a3, .int a4] (σ, ρ) r (σ', ρ) 1 6 := by
  refine wIT_of (cc := cL_done) (maxL := 6) (ret := (some .int)) (hh := hhL_done) (by decide) rfl (Nat.le_of_ble_eq_true rfl) (fun p e s m args below meth c B9 X hx => ?_)
  have K0 : gG p l e rmL_done s m args below meth c D (cyT cy) B9 6 (lIe (lWf cy A aK B X8) D (cyT cy) B9 below args s r (σ', ρ) 1 6) (lW cy A aK B X8 σ ρ) 0 0 0 [(0, .ref (A 0)), (1, .int 8), (2, .int a2), (3, .int a3), (4, .int a4)] [] := by
    refine g_iload_n X dL_done_0 rfl 1 rfl ?_
    refine g_tabIn X (offq := 139) (tgt := 140) dL_done_1 (by decide) (by decide) (by decide) (by decide) ?_
    refine g_aload_n X dL_done_140 rfl 0 rfl ?_
    refine g_iload_n X dL_done_141 rfl 2 rfl ?_
    have e0 := cat0_some h
    refine g_xVI_ret (AD := A) (As := [.int a2]) X (ZL_ok _ _ _ _ _ _ _ _) (xI_up (m_X10_turn hl e0)) (cwV 1 X.1.2.2.2.2 gZL_done_X10_turn rfl rfl rfl (by decide +kernel) ⟨Nat.le_of_ble_eq_true rfl, Nat.le_of_ble_eq_true rfl⟩) rfl cm0 (cE_0 cy A aK σ) rfl rfl (Nat.le_of_ble_eq_true rfl) ⟨thrC_r _ _, thrS_r _ _⟩ dL_done_142 (k' := 0) (n' := 0) (thrC_r _ _) (thrS_r _ _) ?_
    refine g_wid (k' := 1) (n' := 6) (by decide) (by decide) ?_
    exact g_iret (Wf := lWf cy A aK B X8) (u := (σ', ρ)) X ⟨rfl, rfl⟩ dL_done_145
  exact K0
set_option maxHeartbeats 8000000 in
set_option maxRecDepth 100000 in
theorem m_L_done_9 {σ σ' ρ : St} {a1 a2 a3 a4 r : Int32} (hl : l.stackTraces = false) (h : catE "java/lang/IndexOutOfBoundsException" (-1) (f_X10_move a2 a3 a4 σ) = some (r, σ')) : wI (ZL aK aO aS aV aT bS bV dA) D (cyT cy) l yL_done wzL_done rmL_done (lWf cy A aK B X8) [.ref (A 0), .int 9, .int a2, .int a3, .int a4] (σ, ρ) r (σ', ρ) 1 6 := by
  refine wIT_of (cc := cL_done) (maxL := 6) (ret := (some .int)) (hh := hhL_done) (by decide) rfl (Nat.le_of_ble_eq_true rfl) (fun p e s m args below meth c B9 X hx => ?_)
  have K0 : gG p l e rmL_done s m args below meth c D (cyT cy) B9 6 (lIe (lWf cy A aK B X8) D (cyT cy) B9 below args s r (σ', ρ) 1 6) (lW cy A aK B X8 σ ρ) 0 0 0 [(0, .ref (A 0)), (1, .int 9), (2, .int a2), (3, .int a3), (4, .int a4)] [] := by
    refine g_iload_n X dL_done_0 rfl 1 rfl ?_
    refine g_tabIn X (offq := 145) (tgt := 146) dL_done_1 (by decide) (by decide) (by decide) (by decide) ?_
    refine g_aload_n X dL_done_146 rfl 0 rfl ?_
    refine g_iload_n X dL_done_147 rfl 2 rfl ?_
    refine g_iload_n X dL_done_148 rfl 3 rfl ?_
    refine g_iload X dL_done_149 4 rfl ?_
    rcases catE_some h with e0 | ⟨e0, rfl⟩
    · refine g_xVI_ret (AD := A) (As := [.int a2, .int a3, .int a4]) X (ZL_ok _ _ _ _ _ _ _ _) (xI_up (m_X10_move hl e0)) (cwV 3 X.1.2.2.2.2 gZL_done_X10_move rfl rfl rfl (by decide +kernel) ⟨Nat.le_of_ble_eq_true rfl, Nat.le_of_ble_eq_true rfl⟩) rfl cm0 (cE_0 cy A aK σ) rfl rfl (Nat.le_of_ble_eq_true rfl) ⟨thrC_r _ _, thrS_r _ _⟩ dL_done_151 (k' := 0) (n' := 0) (thrC_r _ _) (thrS_r _ _) ?_
      refine g_wid (k' := 1) (n' := 6) (by decide) (by decide) ?_
      exact g_iret (Wf := lWf cy A aK B X8) (u := (σ', ρ)) X ⟨rfl, rfl⟩ dL_done_154
    · refine g_xVI_cat (AD := A) (As := [.int a2, .int a3, .int a4]) (E0 := "java/lang/IndexOutOfBoundsException") (name := "java/lang/IndexOutOfBoundsException") X (ZL_ok _ _ _ _ _ _ _ _) (xI_up (m_X10_move hl e0)) (cwV 3 X.1.2.2.2.2 gZL_done_X10_move rfl rfl rfl (by decide +kernel) ⟨Nat.le_of_ble_eq_true rfl, Nat.le_of_ble_eq_true rfl⟩) rfl cm0 (cE_0 cy A aK σ) rfl rfl (Nat.le_of_ble_eq_true rfl) ⟨thrC_1 _, thrS_1 _⟩ dL_done_151 (k' := 1) (n' := 6) (thrC_1 _) (thrS_1 _) ((tableOf hhL_done).take 9) ⟨146, 154, 208, 139⟩ ((tableOf hhL_done).drop 10) (by rw [hx]; rfl) (pass_of (S9 := []) (by decide) (fun q hq => nomatch hq)) (by decide) (by decide) (X.1.2.2.2.2 _ (by decide +kernel)) (va_Nw.use rfl (X.2.2.2.1.1.1.2.2.2.2.1 _ (by decide))) (fun q9 => ?_)
      refine g_astore X dL_done_208 (by decide) rfl ?_
      refine g_iconst X dL_done_210 (v := (-1 : Int32)) (by decide) ?_
      exact g_iret (Wf := lWf cy A aK B X8) (u := (σ', ρ)) X ⟨rfl, rfl⟩ dL_done_211
  exact K0
set_option maxHeartbeats 8000000 in
set_option maxRecDepth 100000 in
theorem m_L_done_10 {σ σ' ρ : St} {a1 a2 a3 a4 r : Int32} (hl : l.stackTraces = false) (h : cat0 (f_X10_thin a2 a3 σ) = some (r, σ')) : wI (ZL aK aO aS aV aT bS bV dA) D (cyT cy) l yL_done wzL_done rmL_done (lWf cy A aK B X8) [.ref (A 0), .int 10, .int a2, .int a3, .int a4] (σ, ρ) r (σ', ρ) 1 6 := by
  refine wIT_of (cc := cL_done) (maxL := 6) (ret := (some .int)) (hh := hhL_done) (by decide) rfl (Nat.le_of_ble_eq_true rfl) (fun p e s m args below meth c B9 X hx => ?_)
  have K0 : gG p l e rmL_done s m args below meth c D (cyT cy) B9 6 (lIe (lWf cy A aK B X8) D (cyT cy) B9 below args s r (σ', ρ) 1 6) (lW cy A aK B X8 σ ρ) 0 0 0 [(0, .ref (A 0)), (1, .int 10), (2, .int a2), (3, .int a3), (4, .int a4)] [] := by
    refine g_iload_n X dL_done_0 rfl 1 rfl ?_
    refine g_tabIn X (offq := 154) (tgt := 155) dL_done_1 (by decide) (by decide) (by decide) (by decide) ?_
    refine g_aload_n X dL_done_155 rfl 0 rfl ?_
    refine g_iload_n X dL_done_156 rfl 2 rfl ?_
    refine g_iload_n X dL_done_157 rfl 3 rfl ?_
    have e0 := cat0_some h
    refine g_xVI_ret (AD := A) (As := [.int a2, .int a3]) X (ZL_ok _ _ _ _ _ _ _ _) (xI_up (m_X10_thin hl e0)) (cwV 2 X.1.2.2.2.2 gZL_done_X10_thin rfl rfl rfl (by decide +kernel) ⟨Nat.le_of_ble_eq_true rfl, Nat.le_of_ble_eq_true rfl⟩) rfl cm0 (cE_0 cy A aK σ) rfl rfl (Nat.le_of_ble_eq_true rfl) ⟨thrC_r _ _, thrS_r _ _⟩ dL_done_158 (k' := 0) (n' := 0) (thrC_r _ _) (thrS_r _ _) ?_
    refine g_wid (k' := 1) (n' := 6) (by decide) (by decide) ?_
    exact g_iret (Wf := lWf cy A aK B X8) (u := (σ', ρ)) X ⟨rfl, rfl⟩ dL_done_161
  exact K0
set_option maxHeartbeats 8000000 in
set_option maxRecDepth 100000 in
theorem m_L_done_11 {σ σ' ρ : St} {a1 a2 a3 a4 r : Int32} (hl : l.stackTraces = false) (h : cat0 (f_X10_single a2 σ) = some (r, σ')) : wI (ZL aK aO aS aV aT bS bV dA) D (cyT cy) l yL_done wzL_done rmL_done (lWf cy A aK B X8) [.ref (A 0), .int 11, .int a2, .int a3, .int a4] (σ, ρ) r (σ', ρ) 1 6 := by
  refine wIT_of (cc := cL_done) (maxL := 6) (ret := (some .int)) (hh := hhL_done) (by decide) rfl (Nat.le_of_ble_eq_true rfl) (fun p e s m args below meth c B9 X hx => ?_)
  have K0 : gG p l e rmL_done s m args below meth c D (cyT cy) B9 6 (lIe (lWf cy A aK B X8) D (cyT cy) B9 below args s r (σ', ρ) 1 6) (lW cy A aK B X8 σ ρ) 0 0 0 [(0, .ref (A 0)), (1, .int 11), (2, .int a2), (3, .int a3), (4, .int a4)] [] := by
    refine g_iload_n X dL_done_0 rfl 1 rfl ?_
    refine g_tabIn X (offq := 161) (tgt := 162) dL_done_1 (by decide) (by decide) (by decide) (by decide) ?_
    refine g_aload_n X dL_done_162 rfl 0 rfl ?_
    refine g_iload_n X dL_done_163 rfl 2 rfl ?_
    have e0 := cat0_some h
    refine g_xVI_ret (AD := A) (As := [.int a2]) X (ZL_ok _ _ _ _ _ _ _ _) (xI_up (m_X10_single hl e0)) (cwV 1 X.1.2.2.2.2 gZL_done_X10_single rfl rfl rfl (by decide +kernel) ⟨Nat.le_of_ble_eq_true rfl, Nat.le_of_ble_eq_true rfl⟩) rfl cm0 (cE_0 cy A aK σ) rfl rfl (Nat.le_of_ble_eq_true rfl) ⟨thrC_r _ _, thrS_r _ _⟩ dL_done_164 (k' := 0) (n' := 0) (thrC_r _ _) (thrS_r _ _) ?_
    refine g_wid (k' := 1) (n' := 6) (by decide) (by decide) ?_
    exact g_iret (Wf := lWf cy A aK B X8) (u := (σ', ρ)) X ⟨rfl, rfl⟩ dL_done_167
  exact K0
set_option maxHeartbeats 8000000 in
set_option maxRecDepth 100000 in
theorem m_L_done_12 {σ σ' ρ : St} {a1 a2 a3 a4 r : Int32} (hl : l.stackTraces = false) (h : cat0 (f_X10_keep a2 σ) = some (r, σ')) : wI (ZL aK aO aS aV aT bS bV dA) D (cyT cy) l yL_done wzL_done rmL_done (lWf cy A aK B X8) [.ref (A 0), .int 12, .int a2, .int a3, .int a4] (σ, ρ) r (σ', ρ) 1 6 := by
  refine wIT_of (cc := cL_done) (maxL := 6) (ret := (some .int)) (hh := hhL_done) (by decide) rfl (Nat.le_of_ble_eq_true rfl) (fun p e s m args below meth c B9 X hx => ?_)
  have K0 : gG p l e rmL_done s m args below meth c D (cyT cy) B9 6 (lIe (lWf cy A aK B X8) D (cyT cy) B9 below args s r (σ', ρ) 1 6) (lW cy A aK B X8 σ ρ) 0 0 0 [(0, .ref (A 0)), (1, .int 12), (2, .int a2), (3, .int a3), (4, .int a4)] [] := by
    refine g_iload_n X dL_done_0 rfl 1 rfl ?_
    refine g_tabIn X (offq := 167) (tgt := 168) dL_done_1 (by decide) (by decide) (by decide) (by decide) ?_
    refine g_aload_n X dL_done_168 rfl 0 rfl ?_
    refine g_iload_n X dL_done_169 rfl 2 rfl ?_
    have e0 := cat0_some h
    refine g_xVI_ret (AD := A) (As := [.int a2]) X (ZL_ok _ _ _ _ _ _ _ _) (xI_up (m_X10_keep hl e0)) (cwV 1 X.1.2.2.2.2 gZL_done_X10_keep rfl rfl rfl (by decide +kernel) ⟨Nat.le_of_ble_eq_true rfl, Nat.le_of_ble_eq_true rfl⟩) rfl cm0 (cE_0 cy A aK σ) rfl rfl (Nat.le_of_ble_eq_true rfl) ⟨thrC_r _ _, thrS_r _ _⟩ dL_done_170 (k' := 0) (n' := 0) (thrC_r _ _) (thrS_r _ _) ?_
    refine g_wid (k' := 1) (n' := 6) (by decide) (by decide) ?_
    exact g_iret (Wf := lWf cy A aK B X8) (u := (σ', ρ)) X ⟨rfl, rfl⟩ dL_done_173
  exact K0
set_option maxHeartbeats 8000000 in
set_option maxRecDepth 100000 in
theorem m_L_done_13 {σ σ' ρ : St} {a1 a2 a3 a4 r : Int32} (hl : l.stackTraces = false) (h : cat0 (f_X10_restore a2 σ) = some (r, σ')) : wI (ZL aK aO aS aV aT bS bV dA) D (cyT cy) l yL_done wzL_done rmL_done (lWf cy A aK B X8) [.ref (A 0), .int 13, .int a2, .int a3, .int a4] (σ, ρ) r (σ', ρ) 1 6 := by
  refine wIT_of (cc := cL_done) (maxL := 6) (ret := (some .int)) (hh := hhL_done) (by decide) rfl (Nat.le_of_ble_eq_true rfl) (fun p e s m args below meth c B9 X hx => ?_)
  have K0 : gG p l e rmL_done s m args below meth c D (cyT cy) B9 6 (lIe (lWf cy A aK B X8) D (cyT cy) B9 below args s r (σ', ρ) 1 6) (lW cy A aK B X8 σ ρ) 0 0 0 [(0, .ref (A 0)), (1, .int 13), (2, .int a2), (3, .int a3), (4, .int a4)] [] := by
    refine g_iload_n X dL_done_0 rfl 1 rfl ?_
    refine g_tabIn X (offq := 173) (tgt := 174) dL_done_1 (by decide) (by decide) (by decide) (by decide) ?_
    refine g_aload_n X dL_done_174 rfl 0 rfl ?_
    refine g_iload_n X dL_done_175 rfl 2 rfl ?_
    have e0 := cat0_some h
    refine g_xVI_ret (AD := A) (As := [.int a2]) X (ZL_ok _ _ _ _ _ _ _ _) (xI_up (m_X10_restore hl e0)) (cwV 1 X.1.2.2.2.2 gZL_done_X10_restore rfl rfl rfl (by decide +kernel) ⟨Nat.le_of_ble_eq_true rfl, Nat.le_of_ble_eq_true rfl⟩) rfl cm0 (cE_0 cy A aK σ) rfl rfl (Nat.le_of_ble_eq_true rfl) ⟨thrC_r _ _, thrS_r _ _⟩ dL_done_176 (k' := 0) (n' := 0) (thrC_r _ _) (thrS_r _ _) ?_
    refine g_wid (k' := 1) (n' := 6) (by decide) (by decide) ?_
    exact g_iret (Wf := lWf cy A aK B X8) (u := (σ', ρ)) X ⟨rfl, rfl⟩ dL_done_179
  exact K0
set_option maxHeartbeats 8000000 in
set_option maxRecDepth 100000 in
theorem m_L_done_14 {σ σ' ρ : St} {a1 a2 a3 a4 r : Int32} (hl : l.stackTraces = false) (h : catE "java/lang/IllegalStateException" (-3) (rdr (f_X10_placeFor a2 a3 σ) σ) = some (r, σ')) : wI (ZL aK aO aS aV aT bS bV dA) D (cyT cy) l yL_done wzL_done rmL_done (lWf cy A aK B X8) [.ref (A 0), .int 14, .int a2, .int a3, .int a4] (σ, ρ) r (σ', ρ) 1 6 := by
  refine wIT_of (cc := cL_done) (maxL := 6) (ret := (some .int)) (hh := hhL_done) (by decide) rfl (Nat.le_of_ble_eq_true rfl) (fun p e s m args below meth c B9 X hx => ?_)
  have K0 : gG p l e rmL_done s m args below meth c D (cyT cy) B9 6 (lIe (lWf cy A aK B X8) D (cyT cy) B9 below args s r (σ', ρ) 1 6) (lW cy A aK B X8 σ ρ) 0 0 0 [(0, .ref (A 0)), (1, .int 14), (2, .int a2), (3, .int a3), (4, .int a4)] [] := by
    refine g_iload_n X dL_done_0 rfl 1 rfl ?_
    refine g_tabIn X (offq := 179) (tgt := 180) dL_done_1 (by decide) (by decide) (by decide) (by decide) ?_
    refine g_aload_n X dL_done_180 rfl 0 rfl ?_
    refine g_iload_n X dL_done_181 rfl 2 rfl ?_
    refine g_iload_n X dL_done_182 rfl 3 rfl ?_
    rcases catE_some h with e0 | ⟨e0, rfl⟩
    · obtain ⟨e0, rfl⟩ := rdr_some e0
      refine g_xVI_ret (AD := A) (As := [.int a2, .int a3]) X (ZL_ok _ _ _ _ _ _ _ _) (xI_up (m_X10_placeFor hl (rdr_some e0).1)) (cwV 2 X.1.2.2.2.2 gZL_done_X10_placeFor rfl rfl rfl (by decide +kernel) ⟨Nat.le_of_ble_eq_true rfl, Nat.le_of_ble_eq_true rfl⟩) rfl cm0 (cE_0 cy A aK σ) rfl rfl (Nat.le_of_ble_eq_true rfl) ⟨thrC_r _ _, thrS_r _ _⟩ dL_done_183 (k' := 0) (n' := 0) (thrC_r _ _) (thrS_r _ _) ?_
      refine g_wid (k' := 1) (n' := 6) (by decide) (by decide) ?_
      exact g_iret (Wf := lWf cy A aK B X8) (u := (σ, ρ)) X ⟨rfl, rfl⟩ dL_done_186
    · obtain ⟨e0, rfl⟩ := rdr_some e0
      refine g_xVI_cat (AD := A) (As := [.int a2, .int a3]) (E0 := "java/lang/IllegalStateException") (name := "java/lang/IllegalStateException") X (ZL_ok _ _ _ _ _ _ _ _) (xI_up (m_X10_placeFor hl (rdr_some e0).1)) (cwV 2 X.1.2.2.2.2 gZL_done_X10_placeFor rfl rfl rfl (by decide +kernel) ⟨Nat.le_of_ble_eq_true rfl, Nat.le_of_ble_eq_true rfl⟩) rfl cm0 (cE_0 cy A aK σ) rfl rfl (Nat.le_of_ble_eq_true rfl) ⟨thrC_1 _, thrS_1 _⟩ dL_done_183 (k' := 1) (n' := 6) (thrC_1 _) (thrS_1 _) ((tableOf hhL_done).take 50) ⟨180, 186, 217, 77⟩ ((tableOf hhL_done).drop 51) (by rw [hx]; rfl) (pass_of (S9 := [(139, "java/lang/IndexOutOfBoundsException"), (141, "java/lang/IllegalArgumentException")]) (by decide) (fun q hq => by
        simp only [List.mem_cons, List.not_mem_nil, or_false] at hq
        rcases hq with rfl | rfl
        · exact ⟨by decide, X.1.2.2.2.2 _ (by decide +kernel), X.2.2.2.1.2.1 "java/lang/IllegalStateException" (by decide) "java/lang/IndexOutOfBoundsException" (by decide) (by decide)⟩
        · exact ⟨by decide, X.1.2.2.2.2 _ (by decide +kernel), X.2.2.2.1.2.1 "java/lang/IllegalStateException" (by decide) "java/lang/IllegalArgumentException" (by decide) (by decide)⟩)) (by decide) (by decide) (X.1.2.2.2.2 _ (by decide +kernel)) (va_Nw.use rfl (X.2.2.2.1.1.1.2.2.2.2.1 _ (by decide))) (fun q9 => ?_)
      refine g_astore X dL_done_217 (by decide) rfl ?_
      refine g_bipush X dL_done_219 (v := (-3 : Int32)) (by decide) ?_
      exact g_iret (Wf := lWf cy A aK B X8) (u := (σ, ρ)) X ⟨rfl, rfl⟩ dL_done_221
  exact K0
set_option maxHeartbeats 8000000 in
set_option maxRecDepth 100000 in
theorem m_L_done_15 {σ σ' ρ : St} {a1 a2 a3 a4 r : Int32} (hl : l.stackTraces = false) (h : cat0 (f_X10_middle a2 σ) = some (r, σ')) : wI (ZL aK aO aS aV aT bS bV dA) D (cyT cy) l yL_done wzL_done rmL_done (lWf cy A aK B X8) [.ref (A 0), .int 15, .int a2, .int a3, .int a4] (σ, ρ) r (σ', ρ) 1 6 := by
  refine wIT_of (cc := cL_done) (maxL := 6) (ret := (some .int)) (hh := hhL_done) (by decide) rfl (Nat.le_of_ble_eq_true rfl) (fun p e s m args below meth c B9 X hx => ?_)
  have K0 : gG p l e rmL_done s m args below meth c D (cyT cy) B9 6 (lIe (lWf cy A aK B X8) D (cyT cy) B9 below args s r (σ', ρ) 1 6) (lW cy A aK B X8 σ ρ) 0 0 0 [(0, .ref (A 0)), (1, .int 15), (2, .int a2), (3, .int a3), (4, .int a4)] [] := by
    refine g_iload_n X dL_done_0 rfl 1 rfl ?_
    refine g_tabIn X (offq := 186) (tgt := 187) dL_done_1 (by decide) (by decide) (by decide) (by decide) ?_
    refine g_aload_n X dL_done_187 rfl 0 rfl ?_
    refine g_iload_n X dL_done_188 rfl 2 rfl ?_
    have e0 := cat0_some h
    refine g_xVI_ret (AD := A) (As := [.int a2]) X (ZL_ok _ _ _ _ _ _ _ _) (xI_up (m_X10_middle hl e0)) (cwV 1 X.1.2.2.2.2 gZL_done_X10_middle rfl rfl rfl (by decide +kernel) ⟨Nat.le_of_ble_eq_true rfl, Nat.le_of_ble_eq_true rfl⟩) rfl cm0 (cE_0 cy A aK σ) rfl rfl (Nat.le_of_ble_eq_true rfl) ⟨thrC_r _ _, thrS_r _ _⟩ dL_done_189 (k' := 0) (n' := 0) (thrC_r _ _) (thrS_r _ _) ?_
    refine g_wid (k' := 1) (n' := 6) (by decide) (by decide) ?_
    exact g_iret (Wf := lWf cy A aK B X8) (u := (σ', ρ)) X ⟨rfl, rfl⟩ dL_done_192
  exact K0
set_option maxHeartbeats 8000000 in
set_option maxRecDepth 100000 in
theorem m_L_done_16 {σ σ' ρ : St} {a1 a2 a3 a4 r : Int32} (hl : l.stackTraces = false) (h : catE "java/lang/IndexOutOfBoundsException" (-1) (rdr (f_X10_cardAt a2 a3 a4 σ) σ) = some (r, σ')) : wI (ZL aK aO aS aV aT bS bV dA) D (cyT cy) l yL_done wzL_done rmL_done (lWf cy A aK B X8) [.ref (A 0), .int 16, .int a2, .int a3, .int a4] (σ, ρ) r (σ', ρ) 1 6 := by
  refine wIT_of (cc := cL_done) (maxL := 6) (ret := (some .int)) (hh := hhL_done) (by decide) rfl (Nat.le_of_ble_eq_true rfl) (fun p e s m args below meth c B9 X hx => ?_)
  have K0 : gG p l e rmL_done s m args below meth c D (cyT cy) B9 6 (lIe (lWf cy A aK B X8) D (cyT cy) B9 below args s r (σ', ρ) 1 6) (lW cy A aK B X8 σ ρ) 0 0 0 [(0, .ref (A 0)), (1, .int 16), (2, .int a2), (3, .int a3), (4, .int a4)] [] := by
    refine g_iload_n X dL_done_0 rfl 1 rfl ?_
    refine g_tabIn X (offq := 192) (tgt := 193) dL_done_1 (by decide) (by decide) (by decide) (by decide) ?_
    refine g_aload_n X dL_done_193 rfl 0 rfl ?_
    refine g_iload_n X dL_done_194 rfl 2 rfl ?_
    refine g_iload_n X dL_done_195 rfl 3 rfl ?_
    refine g_iload X dL_done_196 4 rfl ?_
    rcases catE_some h with e0 | ⟨e0, rfl⟩
    · obtain ⟨e0, rfl⟩ := rdr_some e0
      refine g_xVI_ret (AD := A) (As := [.int a2, .int a3, .int a4]) X (ZL_ok _ _ _ _ _ _ _ _) (xI_up (m_X10_cardAt hl (rdr_some e0).1)) (cwV 3 X.1.2.2.2.2 gZL_done_X10_cardAt rfl rfl rfl (by decide +kernel) ⟨Nat.le_of_ble_eq_true rfl, Nat.le_of_ble_eq_true rfl⟩) rfl cm0 (cE_0 cy A aK σ) rfl rfl (Nat.le_of_ble_eq_true rfl) ⟨thrC_r _ _, thrS_r _ _⟩ dL_done_198 (k' := 0) (n' := 0) (thrC_r _ _) (thrS_r _ _) ?_
      refine g_wid (k' := 1) (n' := 6) (by decide) (by decide) ?_
      exact g_iret (Wf := lWf cy A aK B X8) (u := (σ, ρ)) X ⟨rfl, rfl⟩ dL_done_201
    · obtain ⟨e0, rfl⟩ := rdr_some e0
      refine g_xVI_cat (AD := A) (As := [.int a2, .int a3, .int a4]) (E0 := "java/lang/IndexOutOfBoundsException") (name := "java/lang/IndexOutOfBoundsException") X (ZL_ok _ _ _ _ _ _ _ _) (xI_up (m_X10_cardAt hl (rdr_some e0).1)) (cwV 3 X.1.2.2.2.2 gZL_done_X10_cardAt rfl rfl rfl (by decide +kernel) ⟨Nat.le_of_ble_eq_true rfl, Nat.le_of_ble_eq_true rfl⟩) rfl cm0 (cE_0 cy A aK σ) rfl rfl (Nat.le_of_ble_eq_true rfl) ⟨thrC_1 _, thrS_1 _⟩ dL_done_198 (k' := 1) (n' := 6) (thrC_1 _) (thrS_1 _) ((tableOf hhL_done).take 16) ⟨193, 201, 208, 139⟩ ((tableOf hhL_done).drop 17) (by rw [hx]; rfl) (pass_of (S9 := []) (by decide) (fun q hq => nomatch hq)) (by decide) (by decide) (X.1.2.2.2.2 _ (by decide +kernel)) (va_Nw.use rfl (X.2.2.2.1.1.1.2.2.2.2.1 _ (by decide))) (fun q9 => ?_)
      refine g_astore X dL_done_208 (by decide) rfl ?_
      refine g_iconst X dL_done_210 (v := (-1 : Int32)) (by decide) ?_
      exact g_iret (Wf := lWf cy A aK B X8) (u := (σ, ρ)) X ⟨rfl, rfl⟩ dL_done_211
  exact K0
theorem m_L_done {σ σ' ρ : St} {a1 a2 a3 a4 r : Int32} (hl : l.stackTraces = false) (h : f_L_done a1 a2 a3 a4 σ = some (r, σ')) : wI (ZL aK aO aS aV aT bS bV dA) D (cyT cy) l yL_done wzL_done rmL_done (lWf cy A aK B X8) [.ref (A 0), .int a1, .int a2, .int a3, .int a4] (σ, ρ) r (σ', ρ) 1 6 := by
  unfold f_L_done at h
  by_cases h0 : a1 = 0
  · rw [if_pos h0] at h; rw [h0]; exact m_L_done_0 (a1 := a1) hl h
  rw [if_neg h0] at h
  by_cases h1 : a1 = 1
  · rw [if_pos h1] at h; rw [h1]; exact m_L_done_1 (a1 := a1) hl h
  rw [if_neg h1] at h
  by_cases h2 : a1 = 2
  · rw [if_pos h2] at h; rw [h2]; exact m_L_done_2 (a1 := a1) hl h
  rw [if_neg h2] at h
  by_cases h3 : a1 = 3
  · rw [if_pos h3] at h; rw [h3]; exact m_L_done_3 (a1 := a1) hl h
  rw [if_neg h3] at h
  by_cases h4 : a1 = 4
  · rw [if_pos h4] at h; rw [h4]; exact m_L_done_4 (a1 := a1) hl h
  rw [if_neg h4] at h
  by_cases h5 : a1 = 5
  · rw [if_pos h5] at h; rw [h5]; exact m_L_done_5 (a1 := a1) hl h
  rw [if_neg h5] at h
  by_cases h6 : a1 = 6
  · rw [if_pos h6] at h; rw [h6]; exact m_L_done_6 (a1 := a1) hl h
  rw [if_neg h6] at h
  by_cases h7 : a1 = 7
  · rw [if_pos h7] at h; rw [h7]; exact m_L_done_7 (a1 := a1) hl h
  rw [if_neg h7] at h
  by_cases h8 : a1 = 8
  · rw [if_pos h8] at h; rw [h8]; exact m_L_done_8 (a1 := a1) hl h
  rw [if_neg h8] at h
  by_cases h9 : a1 = 9
  · rw [if_pos h9] at h; rw [h9]; exact m_L_done_9 (a1 := a1) hl h
  rw [if_neg h9] at h
  by_cases h10 : a1 = 10
  · rw [if_pos h10] at h; rw [h10]; exact m_L_done_10 (a1 := a1) hl h
  rw [if_neg h10] at h
  by_cases h11 : a1 = 11
  · rw [if_pos h11] at h; rw [h11]; exact m_L_done_11 (a1 := a1) hl h
  rw [if_neg h11] at h
  by_cases h12 : a1 = 12
  · rw [if_pos h12] at h; rw [h12]; exact m_L_done_12 (a1 := a1) hl h
  rw [if_neg h12] at h
  by_cases h13 : a1 = 13
  · rw [if_pos h13] at h; rw [h13]; exact m_L_done_13 (a1 := a1) hl h
  rw [if_neg h13] at h
  by_cases h14 : a1 = 14
  · rw [if_pos h14] at h; rw [h14]; exact m_L_done_14 (a1 := a1) hl h
  rw [if_neg h14] at h
  by_cases h15 : a1 = 15
  · rw [if_pos h15] at h; rw [h15]; exact m_L_done_15 (a1 := a1) hl h
  rw [if_neg h15] at h
  by_cases h16 : a1 = 16
  · rw [if_pos h16] at h; rw [h16]; exact m_L_done_16 (a1 := a1) hl h
  rw [if_neg h16] at h
  cases h
set_option maxHeartbeats 8000000 in
set_option maxRecDepth 100000 in
theorem m_L_put {σ σ' ρ : St} {a1 a2 a3 a4 r : Int32} (hl : l.stackTraces = false) (h : f_L_put a1 a2 a3 a4 σ = some (r, σ')) : wI (ZL aK aO aS aV aT bS bV dA) D (cyT cy) l yL_put wsL_put rmL_put (lWf cy A aK B X8) [.ref (A 0), .int a1, .int a2, .int a3, .int a4] (σ, ρ) r (σ', ρ) 1 6 := by
  refine wIT_of (cc := cL_put) (maxL := 6) (ret := (some .int)) (hh := hhL_put) (by decide) rfl (Nat.le_of_ble_eq_true rfl) (fun p e s m args below meth c B9 X hx => ?_)
  have K0 : gG p l e rmL_put s m args below meth c D (cyT cy) B9 6 (lIe (lWf cy A aK B X8) D (cyT cy) B9 below args s r (σ', ρ) 1 6) (lW cy A aK B X8 σ ρ) 0 0 0 [(0, .ref (A 0)), (1, .int a1), (2, .int a2), (3, .int a3), (4, .int a4)] [] := by
    refine g_aload_n X dL_put_0 rfl 0 rfl ?_
    refine g_iload_n X dL_put_1 rfl 1 rfl ?_
    refine g_iload_n X dL_put_2 rfl 2 rfl ?_
    refine g_iload_n X dL_put_3 rfl 3 rfl ?_
    refine g_iload X dL_put_4 4 rfl ?_
    rcases catE_some h with e0 | ⟨e0, rfl⟩
    · refine g_xVI_ret (AD := A) (As := [.int a1, .int a2, .int a3, .int a4]) X (ZL_ok _ _ _ _ _ _ _ _) (xI_up (m_X10_put hl e0)) (cwV 4 X.1.2.2.2.2 gL_put_X10_put rfl rfl rfl (by decide +kernel) ⟨Nat.le_of_ble_eq_true rfl, Nat.le_of_ble_eq_true rfl⟩) rfl cm0 (cE_0 cy A aK σ) rfl rfl (Nat.le_of_ble_eq_true rfl) ⟨thrC_r _ _, thrS_r _ _⟩ dL_put_6 (k' := 0) (n' := 0) (thrC_r _ _) (thrS_r _ _) ?_
      refine g_wid (k' := 1) (n' := 6) (by decide) (by decide) ?_
      exact g_iret (Wf := lWf cy A aK B X8) (u := (σ', ρ)) X ⟨rfl, rfl⟩ dL_put_9
    · refine g_xVI_cat (AD := A) (As := [.int a1, .int a2, .int a3, .int a4]) (E0 := "java/lang/IllegalStateException") (name := "java/lang/IllegalStateException") X (ZL_ok _ _ _ _ _ _ _ _) (xI_up (m_X10_put hl e0)) (cwV 4 X.1.2.2.2.2 gL_put_X10_put rfl rfl rfl (by decide +kernel) ⟨Nat.le_of_ble_eq_true rfl, Nat.le_of_ble_eq_true rfl⟩) rfl cm0 (cE_0 cy A aK σ) rfl rfl (Nat.le_of_ble_eq_true rfl) ⟨thrC_1 _, thrS_1 _⟩ dL_put_6 (k' := 1) (n' := 6) (thrC_1 _) (thrS_1 _) ((tableOf hhL_put).take 1) ⟨0, 9, 14, 77⟩ ((tableOf hhL_put).drop 2) (by rw [hx]; rfl) (pass_of (S9 := [(139, "java/lang/IndexOutOfBoundsException")]) (by decide) (fun q hq => by
        simp only [List.mem_cons, List.not_mem_nil, or_false] at hq
        rcases hq with rfl
        · exact ⟨by decide, X.1.2.2.2.2 _ (by decide +kernel), X.2.2.2.1.2.1 "java/lang/IllegalStateException" (by decide) "java/lang/IndexOutOfBoundsException" (by decide) (by decide)⟩)) (by decide) (by decide) (X.1.2.2.2.2 _ (by decide +kernel)) (va_Nw.use rfl (X.2.2.2.1.1.1.2.2.2.2.1 _ (by decide))) (fun q9 => ?_)
      refine g_astore X dL_put_14 (by decide) rfl ?_
      refine g_bipush X dL_put_16 (v := (-3 : Int32)) (by decide) ?_
      exact g_iret (Wf := lWf cy A aK B X8) (u := (σ', ρ)) X ⟨rfl, rfl⟩ dL_put_18
  exact K0
set_option maxHeartbeats 16000000 in
set_option maxRecDepth 100000 in
theorem m_L_next {σ ρ : St} {r : Int32} {ρ' : St} (h : f_L_next ρ = some (r, ρ')) : wI (ZL aK aO aS aV aT bS bV dA) D (cyT cy) l yL_next wsL_next rmL_next (lWf cy A aK B X8) [.ref (B 0)] (σ, ρ) r (σ, ρ') 0 0 := by
  unfold f_L_next at h
  refine wI_of (cc := cL_next) (maxL := 1) (ret := (some .int)) (by decide) rfl (Nat.le_of_ble_eq_true rfl) (fun p e s m args below meth c B9 X => ?_)
  have lk0 : Cond.constant RL 7 (1103515245) ∈ wsL_next := by decide +kernel
  have K0 : gG p l e rmL_next s m args below meth c D (cyT cy) B9 1 (lIe (lWf cy A aK B X8) D (cyT cy) B9 below args s r (σ, ρ') 0 0) (lW cy A aK B X8 σ ρ) 0 0 0 [(0, .ref (B 0))] [] := by
    refine g_aload_n X dL_next_0 rfl 0 rfl ?_
    refine g_iconst X dL_next_1 (v := (0 : Int32)) (by decide) ?_
    refine g_aload_n X dL_next_2 rfl 0 rfl ?_
    refine g_iconst X dL_next_3 (v := (0 : Int32)) (by decide) ?_
    refine h_rld X (k9 := 0) (by decide) (by decide) dL_next_4 ?_
    refine g_ldc X dL_next_5 lk0 ?_
    refine g_imul X dL_next_7 ?_
    refine g_sipush X dL_next_8 (v := (12345 : Int32)) (by decide) ?_
    refine g_iadd X dL_next_11 ?_
    refine h_rst X (k9 := 0) (by decide) (by decide) dL_next_12 ?_
    obtain ⟨ρ_1, e_2, h⟩ := bnd_some h
    have e_2 := Option.some.inj e_2
    rw [e_2]
    refine g_aload_n X dL_next_13 rfl 0 rfl ?_
    refine g_iconst X dL_next_14 (v := (0 : Int32)) (by decide) ?_
    refine g_dup2 X dL_next_15 rfl rfl ?_
    refine h_rld X (k9 := 0) (by decide) (by decide) dL_next_16 ?_
    refine g_aload_n X dL_next_17 rfl 0 rfl ?_
    refine g_iconst X dL_next_18 (v := (0 : Int32)) (by decide) ?_
    refine h_rld X (k9 := 0) (by decide) (by decide) dL_next_19 ?_
    refine g_bipush X dL_next_20 (v := (15 : Int32)) (by decide) ?_
    refine g_iushr X dL_next_22 ?_
    refine h_ixor X dL_next_23 ?_
    refine h_rst X (k9 := 0) (by decide) (by decide) dL_next_24 ?_
    obtain ⟨ρ_3, e_4, h⟩ := bnd_some h
    have e_4 := Option.some.inj e_4
    rw [e_4]
    refine g_aload_n X dL_next_25 rfl 0 rfl ?_
    refine g_iconst X dL_next_26 (v := (0 : Int32)) (by decide) ?_
    refine h_rld X (k9 := 0) (by decide) (by decide) dL_next_27 ?_
    refine g_bipush X dL_next_28 (v := (9 : Int32)) (by decide) ?_
    refine g_iushr X dL_next_30 ?_
    cases h
    exact g_iret (Wf := (lWf cy A aK B X8)) (u := (_, _)) X ⟨rfl, rfl⟩ dL_next_31
  exact K0
set_option maxHeartbeats 16000000 in
set_option maxRecDepth 100000 in
theorem m_L_from {σ ρ : St} {a1 : Int32} {a2 : Int32} {r : Int32} {ρ' : St} (h : f_L_from a1 a2 ρ = some (r, ρ')) : wI (ZL aK aO aS aV aT bS bV dA) D (cyT cy) l yL_from wsL_from rmL_from (lWf cy A aK B X8) [.ref (B 0), .int a1, .int a2] (σ, ρ) r (σ, ρ') 0 0 := by
  unfold f_L_from at h
  refine wI_of (cc := cL_from) (maxL := 3) (ret := (some .int)) (by decide) rfl (Nat.le_of_ble_eq_true rfl) (fun p e s m args below meth c B9 X => ?_)
  have K0 : gG p l e rmL_from s m args below meth c D (cyT cy) B9 3 (lIe (lWf cy A aK B X8) D (cyT cy) B9 below args s r (σ, ρ') 0 0) (lW cy A aK B X8 σ ρ) 0 0 0 [(0, .ref (B 0)), (1, .int a1), (2, .int a2)] [] := by
    refine g_iload_n X dL_from_0 rfl 1 rfl ?_
    refine g_aload_n X dL_from_1 rfl 0 rfl ?_
    obtain ⟨r_2, ρ_3, hf_1, h⟩ := bnd2_some h
    refine h_callI (As := [.ref (B 0)]) (Wf := lWf cy A aK B X8) (ws9 := (lW cy A aK B X8 σ ρ_3)) X (ZL_ok _ _ _ _ _ _ _ _) (m_L_next hf_1) (va_cwS 1 X.1.2.2.2.2 gL_from_L_next rfl rfl rfl (by decide +kernel) ⟨Nat.le_of_ble_eq_true rfl, Nat.le_of_ble_eq_true rfl⟩) rfl rfl (Nat.le_of_ble_eq_true rfl) ⟨by decide, by decide⟩ dL_from_2 rfl rfl (k' := 0) (n' := 0) (by decide) (by decide) ?_
    refine g_iload_n X dL_from_5 rfl 2 rfl ?_
    refine g_iload_n X dL_from_6 rfl 1 rfl ?_
    refine g_isub X dL_from_7 ?_
    refine g_iconst X dL_from_8 (v := (1 : Int32)) (by decide) ?_
    refine g_iadd X dL_from_9 ?_
    obtain ⟨hg_4, h⟩ := grd_some h
    refine g_irem X dL_from_10 hg_4 ?_
    refine g_iadd X dL_from_11 ?_
    cases h
    exact g_iret (Wf := (lWf cy A aK B X8)) (u := (_, _)) X ⟨rfl, rfl⟩ dL_from_12
  exact K0
set_option maxHeartbeats 16000000 in
set_option maxRecDepth 100000 in
theorem m_L_sees {σ ρ : St} {a1 : Int32} {a2 : Nat} {r : Int32} {ρ' : St} (h2 : a2 < 3) (hl : l.stackTraces = false) (h : f_L_sees a1 a2 σ ρ = some (r, ρ')) : wI (ZL aK aO aS aV aT bS bV dA) D (cyT cy) l yL_sees wsL_sees rmL_sees (lWf cy A aK B X8) [.ref (A 0), .int a1, .ref (B (1 + a2))] (σ, ρ) r (σ, ρ') 0 0 := by
  unfold f_L_sees at h
  refine wI_of (cc := cL_sees) (maxL := 6) (ret := (some .int)) (by decide) rfl (Nat.le_of_ble_eq_true rfl) (fun p e s m args below meth c B9 X => ?_)
  have K0 : gG p l e rmL_sees s m args below meth c D (cyT cy) B9 6 (lIe (lWf cy A aK B X8) D (cyT cy) B9 below args s r (σ, ρ') 0 0) (lW cy A aK B X8 σ ρ) 0 0 0 [(0, .ref (A 0)), (1, .int a1), (2, .ref (B (1 + a2)))] [] := by
    refine g_aload_n X dL_sees_0 rfl 0 rfl ?_
    refine g_iload_n X dL_sees_1 rfl 1 rfl ?_
    obtain ⟨r_2, hf_1, h⟩ := bndQ_some h
    refine g_xVI_ret (AD := A) (As := [.int a1]) X (ZL_ok _ _ _ _ _ _ _ _) (xI_up (m_X10_count hl hf_1)) (cwV 1 X.1.2.2.2.2 gL_sees_X10_count rfl rfl rfl (by decide +kernel) ⟨Nat.le_of_ble_eq_true rfl, Nat.le_of_ble_eq_true rfl⟩) rfl cm0 (cE_0 cy A aK σ) rfl rfl (Nat.le_of_ble_eq_true rfl) ⟨Nat.le_of_ble_eq_true rfl, Nat.le_of_ble_eq_true rfl⟩ dL_sees_2 (k' := 0) (n' := 0) (thrC_k _ _) (thrS_k _ _) ?_
    refine g_istore_n X dL_sees_5 rfl (by decide) (lv' := [(3, .int r_2), (0, .ref (A 0)), (1, .int a1), (2, .ref (B (1 + a2)))]) rfl ?_
    refine g_iconst X dL_sees_6 (v := (0 : Int32)) (by decide) ?_
    refine g_istore X dL_sees_7 (by decide) (lv' := [(4, .int (0 : Int32)), (3, .int r_2), (0, .ref (A 0)), (1, .int a1), (2, .ref (B (1 + a2)))]) rfl ?_
    have L_13 : ∀ (c_3 : Int32) (c_4 : Nat) (hp_5 : c_4 < 3) (c_6 : Int32) (σ_15 : St) (hz_16 : σ_15 = σ) (n_9 : Nat) (v_7 : Int32) (ρ_8 : St) (ρ_14 : St), f_L_sees_L9 c_3 c_4 c_6 σ_15 n_9 v_7 ρ_8 = some (ρ_14) → gG p l e rmL_sees s m args below meth c D (cyT cy) B9 6 (lIe (lWf cy A aK B X8) D (cyT cy) B9 below args s r (σ, ρ') 0 0) (lW cy A aK B X8 σ_15 ρ_14) 0 0 52 [(3, .int c_6)] [] → gG p l e rmL_sees s m args below meth c D (cyT cy) B9 6 (lIe (lWf cy A aK B X8) D (cyT cy) B9 below args s r (σ, ρ') 0 0) (lW cy A aK B X8 σ_15 ρ_8) 0 0 9 [(0, .ref (A 0)), (1, .int c_3), (2, .ref (B (1 + c_4))), (3, .int c_6), (4, .int v_7)] [] := by
      intro c_3 c_4 hp_5 c_6 σ_15 hz_16 n_9
      induction n_9 with
      | zero =>
        intro v_7 ρ_8 ρ_14 h K_11
        rw [f_L_sees_L9] at h
        cases h
      | succ n_9 ih_10 =>
        intro v_7 ρ_8 ρ_14 h K_11
        rw [f_L_sees_L9] at h
        refine g_iload X dL_sees_9 4 rfl ?_
        refine g_iload_n X dL_sees_11 rfl 3 rfl ?_
        refine g_icmp_ge X (tgt := 52) dL_sees_12 (by decide) (fun hc_17 => ?_) (fun hc_17 => ?_)
        · have h := ift hc_17 h
          cases h
          exact g_sub [3] rfl K_11
        · have h := iff_ hc_17 h
          refine g_iconst X dL_sees_15 (v := (0 : Int32)) (by decide) ?_
          refine g_istore X dL_sees_16 (by decide) (lv' := [(5, .int (0 : Int32)), (0, .ref (A 0)), (1, .int c_3), (2, .ref (B (1 + c_4))), (3, .int c_6), (4, .int v_7)]) rfl ?_
          have L_29 : ∀ (c_18 : Int32) (c_19 : Nat) (hp_20 : c_19 < 3) (c_21 : Int32) (c_22 : Int32) (σ_31 : St) (hz_32 : σ_31 = σ_15) (n_25 : Nat) (v_23 : Int32) (ρ_24 : St) (ρ_30 : St), f_L_sees_L18 c_18 c_19 c_22 σ_31 n_25 v_23 ρ_24 = some (ρ_30) → gG p l e rmL_sees s m args below meth c D (cyT cy) B9 6 (lIe (lWf cy A aK B X8) D (cyT cy) B9 below args s r (σ, ρ') 0 0) (lW cy A aK B X8 σ_31 ρ_30) 0 0 46 [(0, .ref (A 0)), (1, .int c_18), (2, .ref (B (1 + c_19))), (3, .int c_21), (4, .int c_22)] [] → gG p l e rmL_sees s m args below meth c D (cyT cy) B9 6 (lIe (lWf cy A aK B X8) D (cyT cy) B9 below args s r (σ, ρ') 0 0) (lW cy A aK B X8 σ_31 ρ_24) 0 0 18 [(0, .ref (A 0)), (1, .int c_18), (2, .ref (B (1 + c_19))), (3, .int c_21), (4, .int c_22), (5, .int v_23)] [] := by
            intro c_18 c_19 hp_20 c_21 c_22 σ_31 hz_32 n_25
            induction n_25 with
            | zero =>
              intro v_23 ρ_24 ρ_30 h K_27
              rw [f_L_sees_L18] at h
              cases h
            | succ n_25 ih_26 =>
              intro v_23 ρ_24 ρ_30 h K_27
              rw [f_L_sees_L18] at h
              refine g_iload X dL_sees_18 5 rfl ?_
              refine g_iconst X dL_sees_20 (v := (3 : Int32)) (by decide) ?_
              refine g_icmp_ge X (tgt := 46) dL_sees_21 (by decide) (fun hc_33 => ?_) (fun hc_33 => ?_)
              · have h := ift hc_33 h
                cases h
                exact g_sub [0, 1, 2, 3, 4] rfl K_27
              · have h := iff_ hc_33 h
                refine g_aload_n X dL_sees_24 rfl 2 rfl ?_
                refine g_iload X dL_sees_25 5 rfl ?_
                obtain ⟨hg_34, h⟩ := grd_some h
                refine h_aald X hp_20 (k9 := v_23.toNatClampNeg) (inR0 hg_34) rfl (inR hg_34) dL_sees_27 ?_
                refine g_iload X dL_sees_28 4 rfl ?_
                refine g_aload_n X dL_sees_30 rfl 0 rfl ?_
                refine g_iload_n X dL_sees_31 rfl 1 rfl ?_
                refine g_iload X dL_sees_32 4 rfl ?_
                refine g_iload X dL_sees_34 5 rfl ?_
                obtain ⟨r_36, hf_35, h⟩ := bndQ_some h
                refine g_xVI_ret (AD := A) (As := [.int c_18, .int c_22, .int v_23]) X (ZL_ok _ _ _ _ _ _ _ _) (xI_up (m_X10_cardAt hl hf_35)) (cwV 3 X.1.2.2.2.2 gL_sees_X10_cardAt rfl rfl rfl (by decide +kernel) ⟨Nat.le_of_ble_eq_true rfl, Nat.le_of_ble_eq_true rfl⟩) rfl cm0 (cE_0 cy A aK σ_31) rfl rfl (Nat.le_of_ble_eq_true rfl) ⟨Nat.le_of_ble_eq_true rfl, Nat.le_of_ble_eq_true rfl⟩ dL_sees_36 (k' := 0) (n' := 0) (thrC_k _ _) (thrS_k _ _) ?_
                obtain ⟨hg_37, h⟩ := grd_some h
                refine h_gst X (isGr.mk hp_20 (inR hg_34)) (k9 := c_22.toNatClampNeg) hg_37 rfl dL_sees_39 ?_
                obtain ⟨ρ_38, e_39, h⟩ := bnd_some h
                have e_39 := Option.some.inj e_39
                rw [e_39]
                refine g_iinc X dL_sees_40 5 rfl (v := v_23 + (1 : Int32)) rfl (by decide) (lv' := [(5, .int (v_23 + (1 : Int32))), (0, .ref (A 0)), (1, .int c_18), (2, .ref (B (1 + c_19))), (3, .int c_21), (4, .int c_22)]) rfl ?_
                refine g_goto X (tgt := 18) dL_sees_43 (by decide) ?_
                exact g_sub [1, 2, 3, 4, 5, 0] rfl (ih_26 _ _ _ h K_27)
          obtain ⟨ρ_30, hl_40, h⟩ := bnd_some h
          refine g_sub [1, 2, 3, 4, 5, 0] rfl (L_29 c_3 c_4 hp_5 c_6 v_7 σ_15 rfl FU (0 : Int32) ρ_8 ρ_30 hl_40 ?_)
          refine g_iinc X dL_sees_46 4 rfl (v := v_7 + (1 : Int32)) rfl (by decide) (lv' := [(4, .int (v_7 + (1 : Int32))), (0, .ref (A 0)), (1, .int c_3), (2, .ref (B (1 + c_4))), (3, .int c_6)]) rfl ?_
          refine g_goto X (tgt := 9) dL_sees_49 (by decide) ?_
          exact g_sub [1, 2, 3, 4, 0] rfl (ih_10 _ _ _ h K_11)
    obtain ⟨ρ_14, hl_41, h⟩ := bnd_some h
    refine g_sub [2, 3, 4, 1, 0] rfl (L_13 a1 a2 h2 r_2 σ rfl FU (0 : Int32) ρ ρ_14 hl_41 ?_)
    refine g_iload_n X dL_sees_52 rfl 0 rfl ?_
    cases h
    exact g_iret (Wf := (lWf cy A aK B X8)) (u := (_, _)) X ⟨rfl, rfl⟩ dL_sees_53
  exact K0
end LV
