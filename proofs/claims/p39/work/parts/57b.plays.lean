/-! the law's plays -/
section TR6
variable {l : Launch} {D : va_G} {cy : Nat → ClassId} {aK aO aS aV aT bS bV dA B : Nat → Nat}
abbrev rmS_plays : Room := { frames := 14, cells := 3440, slots := 552900, locals := 370 }
set_option maxHeartbeats 16000000 in
set_option maxRecDepth 100000 in
theorem t_plays {X8 : va_W} {ρ : St} (hl : l.stackTraces = false) : cI (ZI aK aO aS aV aT bS bV dA) D (cyT cy) l yL_plays wzL_plays rmS_plays (wF B (lE cy B) lL X8 ρ) [.ref (B 0), .ref (B (1 + 0)), .ref (B (1 + 1)), .ref (B (1 + 2)), .ref (B 13)] (fun r9 u9 => ∃ ρ9 : St, r9 = 1 ∧ u9 = wF B (lE cy B) lL X8 ρ9) 3440 552900 := by
  refine cI_of (cc := cL_plays) (maxL := 10) (ret := (some .boolean)) (by decide) rfl (Nat.le_of_ble_eq_true rfl) (fun p e s m args below meth c B9 X hnm => ?_)
  have hin10 : ∀ w ∈ u_ws RX10 TX10 10, w ∈ wzL_plays := by decide +kernel
  refine g_new X (C := RX10) (T := TX10) (N := 10) (ci := 9) (fs := [.null, .null, .null, .null, .null, .null, .null, .null, .null, .null]) hin10 tyX10 tyX10_ok (by decide +kernel) (by decide +kernel) (by decide +kernel) rfl (fun j hj => by match j, hj with | 0, _ => rfl | 1, _ => rfl | 2, _ => rfl | 3, _ => rfl | 4, _ => rfl | 5, _ => rfl | 6, _ => rfl | 7, _ => rfl | 8, _ => rfl | 9, _ => rfl) (by decide) (by decide) dL_plays_0 (fun q_0 => ?_)
  refine g_dup X dL_plays_3 rfl ?_
  refine g_callC (ws0 := wF B (lE cy B) lL X8 ρ) (As := []) X (ZI_ok _ _ _ _ _ _ _ _) (c_X10_init q_0) (cwI 0 X.1.2.2.2.2 gZL_plays_X10_init rfl rfl rfl (X.1.2.2.2.2 _ (by decide +kernel)) (X.1.2.2.2.2 _ (by decide +kernel)) (X.1.2.2.2.2 _ (by decide +kernel)) rfl (by decide +kernel) ⟨Nat.le_of_ble_eq_true rfl, Nat.le_of_ble_eq_true rfl⟩) rfl rfl (Nat.le_of_ble_eq_true rfl) ⟨by decide, by decide⟩ dL_plays_4 (fun A hA => ?_)
  subst hA
  refine g_perm List.perm_append_comm ?_
  refine g_weq (ws9 := lW cy A aK B X8 sZ ρ ++ []) (List.append_nil _).symm ?_
  have KE : ∀ (σ1 ρ1 : St) (a1 : AS) (R1 : QR), qIN a1 R1 σ1 → gG p l e rmS_plays s m args below meth c D (cyT cy) B9 10 (MQ below (va_Qi (fun r9 u9 => ∃ ρ9 : St, r9 = 1 ∧ u9 = wF B (lE cy B) lL X8 ρ9) (gAt D (cyT cy) (fun w9 : va_W => w9) B9) B9) args s 3440 552900 B9) (lW cy A aK B X8 σ1 ρ1 ++ []) 3412 552745 298 [(7, .int (nI 18)), (6, .int (nI 1)), (5, .ref (A 0)), (4, .ref (B 13)), (3, .ref (B (1 + 2))), (2, .ref (B (1 + 1))), (1, .ref (B (1 + 0))), (0, .ref (B 0))] [] := by
    intro σ1 ρ1 a1 R1 q1
    have b2 := D_b2 q1
    have b3 := D_b3 q1
    have b5 := D_b5 q1
    have c1 := E_count q1 (show 0 < 4 by decide)
    obtain ⟨σ2, e2⟩ := E_errors q1
    refine g_iload X dL_plays_298 1 rfl ?_
    refine g_if_eq X (tgt := 388) dL_plays_300 (by decide) (fun h9 => absurd h9 (by decide)) (fun _ => ?_)
    refine g_aload X dL_plays_303 2 rfl ?_
    refine g_iconst X dL_plays_305 (v := (1 : Int32)) (by decide) ?_
    refine g_iconst X dL_plays_306 (v := (4 : Int32)) (by decide) ?_
    refine g_iconst X dL_plays_307 (v := (0 : Int32)) (by decide) ?_
    refine g_iconst X dL_plays_308 (v := (0 : Int32)) (by decide) ?_
    refine h_callIT (As := [.ref (A 0), .int (1 : Int32), .int (4 : Int32), .int (0 : Int32), .int (0 : Int32)]) (Wf := lWf cy A aK B (X8 ++ [])) (u := (σ1, ρ1)) (u' := (σ1, ρ1)) (ws9 := lW cy A aK B X8 σ1 ρ1 ++ []) X (ZI_ok _ _ _ _ _ _ _ _) (wI_up (m_L_done hl (D_b1 σ1))) (vx_cwSW 5 X.1.2.2.2.2 gZL_plays_L_done rfl rfl rfl (by decide +kernel) ⟨Nat.le_of_ble_eq_true rfl, Nat.le_of_ble_eq_true rfl⟩) rfl rfl (Nat.le_of_ble_eq_true rfl) ⟨by show 3412 + 1 ≤ 3440; omega, by show 552745 + 6 ≤ 552900; omega⟩ dL_plays_309 lW_app lW_app (k' := 3413) (n' := 552745 + 6) (by omega) (by omega) ?_
    refine g_iconst X dL_plays_312 (v := (-1 : Int32)) (by decide) ?_
    refine g_icmp_ne X (tgt := 388) dL_plays_313 (by decide) (fun h9 => absurd (rfl) h9) (fun _ => ?_)
    refine g_aload X dL_plays_316 2 rfl ?_
    refine g_iconst X dL_plays_318 (v := (2 : Int32)) (by decide) ?_
    refine g_iconst X dL_plays_319 (v := (0 : Int32)) (by decide) ?_
    refine g_iconst X dL_plays_320 (v := (0 : Int32)) (by decide) ?_
    refine g_aload X dL_plays_321 2 rfl ?_
    refine g_iconst X dL_plays_323 (v := (0 : Int32)) (by decide) ?_
    refine g_weq (ws9 := lW cy A aK B (X8 ++ []) σ1 ρ1) lW_app.symm ?_
    refine g_xVI_ret (AD := A) (As := [.int (0 : Int32)]) X (ZI_ok _ _ _ _ _ _ _ _) (xI_upI (m_X10_count hl c1)) (cwV 1 X.1.2.2.2.2 gZL_plays_X10_count rfl rfl rfl (by decide +kernel) ⟨Nat.le_of_ble_eq_true rfl, Nat.le_of_ble_eq_true rfl⟩) rfl cm0 (cE_0 cy A aK σ1) rfl rfl (Nat.le_of_ble_eq_true rfl) ⟨by show 3413 + 0 ≤ 3440; omega, by show 552745 + 6 + 0 ≤ 552900; omega⟩ dL_plays_324 (k' := 3413) (n' := 552745 + 6) (thrC_k _ _) (thrS_k _ _) ?_
    refine g_weq (ws9 := lW cy A aK B X8 σ1 ρ1 ++ []) lW_app ?_
    refine g_iconst X dL_plays_327 (v := (1 : Int32)) (by decide) ?_
    refine g_iadd X dL_plays_328 ?_
    refine g_top (y := nI ((R1 0).length + 1)) (nq_add _ 1) ?_
    refine h_callIT (As := [.ref (A 0), .int (2 : Int32), .int (0 : Int32), .int (0 : Int32), .int (nI ((R1 0).length + 1))]) (Wf := lWf cy A aK B (X8 ++ [])) (u := (σ1, ρ1)) (u' := (σ1, ρ1)) (ws9 := lW cy A aK B X8 σ1 ρ1 ++ []) X (ZI_ok _ _ _ _ _ _ _ _) (wI_up (m_L_done hl b2)) (vx_cwSW 5 X.1.2.2.2.2 gZL_plays_L_done rfl rfl rfl (by decide +kernel) ⟨Nat.le_of_ble_eq_true rfl, Nat.le_of_ble_eq_true rfl⟩) rfl rfl (Nat.le_of_ble_eq_true rfl) ⟨by show 3413 + 1 ≤ 3440; omega, by show 552745 + 6 + 6 ≤ 552900; omega⟩ dL_plays_329 lW_app lW_app (k' := 3414) (n' := 552745 + 6 + 6) (by omega) (by omega) ?_
    refine g_iconst X dL_plays_332 (v := (-1 : Int32)) (by decide) ?_
    refine g_icmp_ne X (tgt := 388) dL_plays_333 (by decide) (fun h9 => absurd (rfl) h9) (fun _ => ?_)
    refine g_aload X dL_plays_336 2 rfl ?_
    refine g_iconst X dL_plays_338 (v := (2 : Int32)) (by decide) ?_
    refine g_iconst X dL_plays_339 (v := (0 : Int32)) (by decide) ?_
    refine g_iconst X dL_plays_340 (v := (1 : Int32)) (by decide) ?_
    refine g_iconst X dL_plays_341 (v := (0 : Int32)) (by decide) ?_
    refine h_callIT (As := [.ref (A 0), .int (2 : Int32), .int (0 : Int32), .int (1 : Int32), .int (0 : Int32)]) (Wf := lWf cy A aK B (X8 ++ [])) (u := (σ1, ρ1)) (u' := (σ1, ρ1)) (ws9 := lW cy A aK B X8 σ1 ρ1 ++ []) X (ZI_ok _ _ _ _ _ _ _ _) (wI_up (m_L_done hl b3)) (vx_cwSW 5 X.1.2.2.2.2 gZL_plays_L_done rfl rfl rfl (by decide +kernel) ⟨Nat.le_of_ble_eq_true rfl, Nat.le_of_ble_eq_true rfl⟩) rfl rfl (Nat.le_of_ble_eq_true rfl) ⟨by show 3414 + 1 ≤ 3440; omega, by show 552745 + 6 + 6 + 6 ≤ 552900; omega⟩ dL_plays_342 lW_app lW_app (k' := 3415) (n' := 552745 + 6 + 6 + 6) (by omega) (by omega) ?_
    refine g_bipush X dL_plays_345 (v := (-2 : Int32)) (by decide) ?_
    refine g_icmp_ne X (tgt := 388) dL_plays_347 (by decide) (fun h9 => absurd (rfl) h9) (fun _ => ?_)
    refine g_aload X dL_plays_350 2 rfl ?_
    refine g_bipush X dL_plays_352 (v := (6 : Int32)) (by decide) ?_
    refine g_iconst X dL_plays_354 (v := (0 : Int32)) (by decide) ?_
    refine g_iconst X dL_plays_355 (v := (0 : Int32)) (by decide) ?_
    refine g_iconst X dL_plays_356 (v := (0 : Int32)) (by decide) ?_
    refine h_callIT (As := [.ref (A 0), .int (6 : Int32), .int (0 : Int32), .int (0 : Int32), .int (0 : Int32)]) (Wf := lWf cy A aK B (X8 ++ [])) (u := (σ1, ρ1)) (u' := (σ1, ρ1)) (ws9 := lW cy A aK B X8 σ1 ρ1 ++ []) X (ZI_ok _ _ _ _ _ _ _ _) (wI_up (m_L_done hl (D_b4 σ1))) (vx_cwSW 5 X.1.2.2.2.2 gZL_plays_L_done rfl rfl rfl (by decide +kernel) ⟨Nat.le_of_ble_eq_true rfl, Nat.le_of_ble_eq_true rfl⟩) rfl rfl (Nat.le_of_ble_eq_true rfl) ⟨by show 3415 + 1 ≤ 3440; omega, by show 552745 + 6 + 6 + 6 + 6 ≤ 552900; omega⟩ dL_plays_357 lW_app lW_app (k' := 3416) (n' := 552745 + 6 + 6 + 6 + 6) (by omega) (by omega) ?_
    refine g_bipush X dL_plays_360 (v := (-2 : Int32)) (by decide) ?_
    refine g_icmp_ne X (tgt := 388) dL_plays_362 (by decide) (fun h9 => absurd (rfl) h9) (fun _ => ?_)
    refine g_aload X dL_plays_365 2 rfl ?_
    refine g_bipush X dL_plays_367 (v := (16 : Int32)) (by decide) ?_
    refine g_iconst X dL_plays_369 (v := (0 : Int32)) (by decide) ?_
    refine g_aload X dL_plays_370 2 rfl ?_
    refine g_iconst X dL_plays_372 (v := (0 : Int32)) (by decide) ?_
    refine g_weq (ws9 := lW cy A aK B (X8 ++ []) σ1 ρ1) lW_app.symm ?_
    refine g_xVI_ret (AD := A) (As := [.int (0 : Int32)]) X (ZI_ok _ _ _ _ _ _ _ _) (xI_upI (m_X10_count hl c1)) (cwV 1 X.1.2.2.2.2 gZL_plays_X10_count rfl rfl rfl (by decide +kernel) ⟨Nat.le_of_ble_eq_true rfl, Nat.le_of_ble_eq_true rfl⟩) rfl cm0 (cE_0 cy A aK σ1) rfl rfl (Nat.le_of_ble_eq_true rfl) ⟨by show 3416 + 0 ≤ 3440; omega, by show 552745 + 6 + 6 + 6 + 6 + 0 ≤ 552900; omega⟩ dL_plays_373 (k' := 3416) (n' := 552745 + 6 + 6 + 6 + 6) (thrC_k _ _) (thrS_k _ _) ?_
    refine g_weq (ws9 := lW cy A aK B X8 σ1 ρ1 ++ []) lW_app ?_
    refine g_iconst X dL_plays_376 (v := (0 : Int32)) (by decide) ?_
    refine h_callIT (As := [.ref (A 0), .int (16 : Int32), .int (0 : Int32), .int (nI (R1 0).length), .int (0 : Int32)]) (Wf := lWf cy A aK B (X8 ++ [])) (u := (σ1, ρ1)) (u' := (σ1, ρ1)) (ws9 := lW cy A aK B X8 σ1 ρ1 ++ []) X (ZI_ok _ _ _ _ _ _ _ _) (wI_up (m_L_done hl b5)) (vx_cwSW 5 X.1.2.2.2.2 gZL_plays_L_done rfl rfl rfl (by decide +kernel) ⟨Nat.le_of_ble_eq_true rfl, Nat.le_of_ble_eq_true rfl⟩) rfl rfl (Nat.le_of_ble_eq_true rfl) ⟨by show 3416 + 1 ≤ 3440; omega, by show 552745 + 6 + 6 + 6 + 6 + 6 ≤ 552900; omega⟩ dL_plays_377 lW_app lW_app (k' := 3417) (n' := 552745 + 6 + 6 + 6 + 6 + 6) (by omega) (by omega) ?_
    refine g_iconst X dL_plays_380 (v := (-1 : Int32)) (by decide) ?_
    refine g_icmp_ne X (tgt := 388) dL_plays_381 (by decide) (fun h9 => absurd (rfl) h9) (fun _ => ?_)
    refine g_iconst X dL_plays_384 (v := (1 : Int32)) (by decide) ?_
    refine g_goto X (tgt := 389) dL_plays_385 (by decide) ?_
    refine g_istore X dL_plays_389 (by decide) (lv' := [(6, .int (1 : Int32)), (7, .int (nI 18)), (5, .ref (A 0)), (4, .ref (B 13)), (3, .ref (B (1 + 2))), (2, .ref (B (1 + 1))), (1, .ref (B (1 + 0))), (0, .ref (B 0))]) rfl ?_
    refine g_iload X dL_plays_391 0 rfl ?_
    refine g_if_eq X (tgt := 408) dL_plays_393 (by decide) (fun h9 => absurd h9 (by decide)) (fun _ => ?_)
    refine g_aload X dL_plays_396 2 rfl ?_
    refine g_weq (ws9 := lW cy A aK B (X8 ++ []) σ1 ρ1) lW_app.symm ?_
    refine g_callVI (AD := A) (As := []) X (ZI_ok _ _ _ _ _ _ _ _) (mI_upI (m_X10_errors e2)) (cwV 0 X.1.2.2.2.2 gZL_plays_X10_errors rfl rfl rfl (by decide +kernel) ⟨Nat.le_of_ble_eq_true rfl, Nat.le_of_ble_eq_true rfl⟩) rfl cm0 (cE_0 cy A aK σ1) rfl rfl (Nat.le_of_ble_eq_true rfl) ⟨by show 3417 + 0 ≤ 3440; omega, by show 552745 + 6 + 6 + 6 + 6 + 6 + 0 ≤ 552900; omega⟩ dL_plays_398 ?_
    refine g_weq (ws9 := lW cy A aK B X8 σ2 ρ1 ++ []) lW_app ?_
    refine g_if_ne X (tgt := 408) dL_plays_401 (by decide) (fun h9 => absurd (rfl) h9) (fun _ => ?_)
    refine g_iconst X dL_plays_404 (v := (1 : Int32)) (by decide) ?_
    refine g_goto X (tgt := 409) dL_plays_405 (by decide) ?_
    refine g_wid (k' := 3440) (n' := 552900) (by omega) (by omega) ?_
    refine g_subl (ws9 := wF B (lE cy B) lL X8 ρ1) (show List.Sublist (wF B (lE cy B) lL X8 ρ1) (lW cy A aK B X8 σ2 ρ1 ++ []) by rw [List.append_nil, lW_def]; exact List.sublist_append_right _ _) ?_
    exact g_zret (Wf := fun w9 : va_W => w9) (u := wF B (lE cy B) lL X8 ρ1) X (rfl) (⟨ρ1, rfl, rfl⟩) dL_plays_409
  have K62 : ∀ (d u : Nat) (σ1 ρ1 : St) (a1 : AS) (R1 : QR), u + d = 18 → qIN a1 R1 σ1 → an a1 0 ≤ 801 * (3 + u) → gG p l e rmS_plays s m args below meth c D (cyT cy) B9 10 (MQ below (va_Qi (fun r9 u9 => ∃ ρ9 : St, r9 = 1 ∧ u9 = wF B (lE cy B) lL X8 ρ9) (gAt D (cyT cy) (fun w9 : va_W => w9) B9) B9) args s 3440 552900 B9) (lW cy A aK B X8 σ1 ρ1 ++ []) (532 + 160 * u) (126145 + 23700 * u) 62 [(7, .int (nI u)), (6, .int (nI 1)), (5, .ref (A 0)), (4, .ref (B 13)), (3, .ref (B (1 + 2))), (2, .ref (B (1 + 1))), (1, .ref (B (1 + 0))), (0, .ref (B 0))] [] := by
    intro d
    induction d with
    | zero =>
      intro u σ1 ρ1 a1 R1 hu q1 hm
      obtain rfl : u = 18 := by omega
      refine g_iload X dL_plays_62 0 rfl ?_
      refine g_bipush X dL_plays_64 (v := (18 : Int32)) (by decide) ?_
      refine g_icmp_ge X (tgt := 298) dL_plays_66 (by decide) (fun _ => ?_) (fun h9 => absurd (by decide) h9)
      refine g_wid (k' := 3412) (n' := 552745) (by omega) (by omega) ?_
      exact KE σ1 ρ1 a1 R1 q1
    | succ d ih =>
      intro u σ1 ρ1 a1 R1 hu q1 hm
      have KN : ∀ (σ2 ρ2 : St) (a2 : AS) (R2 : QR), qIN a2 R2 σ2 → an a2 0 ≤ 801 * (3 + (u + 1)) → gG p l e rmS_plays s m args below meth c D (cyT cy) B9 10 (MQ below (va_Qi (fun r9 u9 => ∃ ρ9 : St, r9 = 1 ∧ u9 = wF B (lE cy B) lL X8 ρ9) (gAt D (cyT cy) (fun w9 : va_W => w9) B9) B9) args s 3440 552900 B9) (lW cy A aK B X8 σ2 ρ2 ++ []) (532 + 160 * (u + 1)) (126145 + 23700 * (u + 1)) 292 [(7, .int (nI u)), (6, .int (nI 1)), (5, .ref (A 0)), (4, .ref (B 13)), (3, .ref (B (1 + 2))), (2, .ref (B (1 + 1))), (1, .ref (B (1 + 0))), (0, .ref (B 0))] [] := by
        intro σ2 ρ2 a2 R2 q2 hm2
        refine g_iinc X dL_plays_292 0 rfl (v := nI (u + 1)) (nq_add u 1) (by decide) (lv' := [(7, .int (nI (u + 1))), (6, .int (nI 1)), (5, .ref (A 0)), (4, .ref (B 13)), (3, .ref (B (1 + 2))), (2, .ref (B (1 + 1))), (1, .ref (B (1 + 0))), (0, .ref (B 0))]) rfl ?_
        refine g_goto X (tgt := 62) dL_plays_295 (by decide) ?_
        refine g_sub [0, 1, 2, 3, 4, 5, 6, 7] (lv' := [(7, .int (nI (u + 1))), (6, .int (nI 1)), (5, .ref (A 0)), (4, .ref (B 13)), (3, .ref (B (1 + 2))), (2, .ref (B (1 + 1))), (1, .ref (B (1 + 0))), (0, .ref (B 0))]) rfl ?_
        exact ih (u + 1) σ2 ρ2 a2 R2 (by omega) q2 hm2
      refine g_iload X dL_plays_62 0 rfl ?_
      refine g_bipush X dL_plays_64 (v := (18 : Int32)) (by decide) ?_
      refine g_icmp_ge X (tgt := 298) dL_plays_66 (by decide) (fun h9 => absurd h9 (by rw [show (18 : Int32) = nI 18 from rfl, nq_le (by omega) (by omega)]; omega)) (fun _ => ?_)
      refine g_iload X dL_plays_69 1 rfl ?_
      refine g_if_eq X (tgt := 298) dL_plays_71 (by decide) (fun h9 => absurd h9 (by decide)) (fun _ => ?_)
      refine g_aload_n X dL_plays_74 rfl 7 rfl ?_
      obtain ⟨k1, ρ2, hk1, hf1, hr1⟩ := L_next ρ1
      refine h_callI (As := [.ref (B 0)]) (Wf := lWf cy A aK B (X8 ++ [])) (u := (σ1, ρ1)) (u' := (σ1, ρ2)) (ws9 := lW cy A aK B X8 σ1 ρ2 ++ []) X (ZI_ok _ _ _ _ _ _ _ _) (wI_up (m_L_next hf1)) (va_cwS 1 X.1.2.2.2.2 gZL_plays_L_next rfl rfl rfl (by decide +kernel) ⟨Nat.le_of_ble_eq_true rfl, Nat.le_of_ble_eq_true rfl⟩) rfl rfl (Nat.le_of_ble_eq_true rfl) ⟨by show 532 + 160 * u + 0 + 0 ≤ 3440; omega, by show 126145 + 23700 * u + 0 ≤ 552900; omega⟩ dL_plays_75 lW_app lW_app (k' := 532 + 160 * u + 0) (n' := 126145 + 23700 * u) (by omega) (by omega) ?_
      refine g_iconst X dL_plays_78 (v := (4 : Int32)) (by decide) ?_
      refine g_irem X dL_plays_79 (by decide) ?_
      refine g_top (y := nI (k1 % 4)) (rem_nI (k := k1) (n := 4) (by decide) (by omega) (by decide)) ?_
      refine g_istore X dL_plays_80 (by decide) (lv' := [(8, .int (nI (k1 % 4))), (7, .int (nI u)), (6, .int (nI 1)), (5, .ref (A 0)), (4, .ref (B 13)), (3, .ref (B (1 + 2))), (2, .ref (B (1 + 1))), (1, .ref (B (1 + 0))), (0, .ref (B 0))]) rfl ?_
      refine g_aload_n X dL_plays_82 rfl 8 rfl ?_
      obtain ⟨k2, ρ3, hk2, hf2, hr2⟩ := L_next ρ2
      refine h_callI (As := [.ref (B 0)]) (Wf := lWf cy A aK B (X8 ++ [])) (u := (σ1, ρ2)) (u' := (σ1, ρ3)) (ws9 := lW cy A aK B X8 σ1 ρ3 ++ []) X (ZI_ok _ _ _ _ _ _ _ _) (wI_up (m_L_next hf2)) (va_cwS 1 X.1.2.2.2.2 gZL_plays_L_next rfl rfl rfl (by decide +kernel) ⟨Nat.le_of_ble_eq_true rfl, Nat.le_of_ble_eq_true rfl⟩) rfl rfl (Nat.le_of_ble_eq_true rfl) ⟨by show 532 + 160 * u + 0 + 0 ≤ 3440; omega, by show 126145 + 23700 * u + 0 ≤ 552900; omega⟩ dL_plays_83 lW_app lW_app (k' := 532 + 160 * u + 0) (n' := 126145 + 23700 * u) (by omega) (by omega) ?_
      refine g_bipush X dL_plays_86 (v := (17 : Int32)) (by decide) ?_
      refine g_irem X dL_plays_88 (by decide) ?_
      refine g_top (y := nI (k2 % 17)) (rem_nI (k := k2) (n := 17) (by decide) (by omega) (by decide)) ?_
      refine g_istore X dL_plays_89 (by decide) (lv' := [(9, .int (nI (k2 % 17))), (8, .int (nI (k1 % 4))), (7, .int (nI u)), (6, .int (nI 1)), (5, .ref (A 0)), (4, .ref (B 13)), (3, .ref (B (1 + 2))), (2, .ref (B (1 + 1))), (1, .ref (B (1 + 0))), (0, .ref (B 0))]) rfl ?_
      have hrow : k1 % 4 < 4 := Nat.mod_lt _ (by decide)
      obtain ⟨w9, hw9⟩ : ∃ z, z = k2 % 17 := ⟨_, rfl⟩
      rw [← hw9]
      rcases (show w9 = 0 ∨ (1 ≤ w9 ∧ w9 ≤ 5) ∨ (6 ≤ w9 ∧ w9 ≤ 11) ∨ w9 = 12 ∨ w9 = 13 ∨ w9 = 14 ∨ w9 = 15 ∨ w9 = 16 by omega) with h | h | h | h | h | h | h | h
      · have c1 := E_count q1 hrow
        refine g_iload X dL_plays_91 0 rfl ?_
        refine g_iconst X dL_plays_93 (v := (1 : Int32)) (by decide) ?_
        refine g_icmp_lt X (tgt := 123) dL_plays_94 (by decide) (fun _ => ?_) (fun h9 => absurd (by rw [nz1, nq_lt (by omega) (by omega)]; omega) h9)
        refine g_iload X dL_plays_123 0 rfl ?_
        refine g_bipush X dL_plays_125 (v := (6 : Int32)) (by decide) ?_
        refine g_icmp_lt X (tgt := 155) dL_plays_127 (by decide) (fun _ => ?_) (fun h9 => absurd (by rw [show (6 : Int32) = nI 6 from rfl, nq_lt (by omega) (by omega)]; omega) h9)
        refine g_iload X dL_plays_155 0 rfl ?_
        refine g_bipush X dL_plays_157 (v := (12 : Int32)) (by decide) ?_
        refine g_icmp_ne X (tgt := 177) dL_plays_159 (by decide) (fun _ => ?_) (fun h9 => absurd h9 (by rw [show (12 : Int32) = nI 12 from rfl, nq_inj (by omega) (by omega)]; omega))
        refine g_iload X dL_plays_177 0 rfl ?_
        refine g_bipush X dL_plays_179 (v := (13 : Int32)) (by decide) ?_
        refine g_icmp_ne X (tgt := 200) dL_plays_181 (by decide) (fun _ => ?_) (fun h9 => absurd h9 (by rw [show (13 : Int32) = nI 13 from rfl, nq_inj (by omega) (by omega)]; omega))
        refine g_iload X dL_plays_200 0 rfl ?_
        refine g_bipush X dL_plays_202 (v := (14 : Int32)) (by decide) ?_
        refine g_icmp_ne X (tgt := 220) dL_plays_204 (by decide) (fun _ => ?_) (fun h9 => absurd h9 (by rw [show (14 : Int32) = nI 14 from rfl, nq_inj (by omega) (by omega)]; omega))
        refine g_iload X dL_plays_220 0 rfl ?_
        refine g_bipush X dL_plays_222 (v := (15 : Int32)) (by decide) ?_
        refine g_icmp_ne X (tgt := 261) dL_plays_224 (by decide) (fun _ => ?_) (fun h9 => absurd h9 (by rw [show (15 : Int32) = nI 15 from rfl, nq_inj (by omega) (by omega)]; omega))
        refine g_aload X dL_plays_261 4 rfl ?_
        refine g_iload X dL_plays_263 1 rfl ?_
        refine g_weq (ws9 := lW cy A aK B (X8 ++ []) σ1 ρ3) lW_app.symm ?_
        refine g_xVI_ret (AD := A) (As := [.int (nI (k1 % 4))]) X (ZI_ok _ _ _ _ _ _ _ _) (xI_upI (m_X10_count hl c1)) (cwV 1 X.1.2.2.2.2 gZL_plays_X10_count rfl rfl rfl (by decide +kernel) ⟨Nat.le_of_ble_eq_true rfl, Nat.le_of_ble_eq_true rfl⟩) rfl cm0 (cE_0 cy A aK σ1) rfl rfl (Nat.le_of_ble_eq_true rfl) ⟨by show 532 + 160 * u + 0 + 0 ≤ 3440; omega, by show 126145 + 23700 * u + 0 ≤ 552900; omega⟩ dL_plays_265 (k' := 532 + 160 * u + 0) (n' := 126145 + 23700 * u) (thrC_k _ _) (thrS_k _ _) ?_
        refine g_weq (ws9 := lW cy A aK B X8 σ1 ρ3 ++ []) lW_app ?_
        refine g_sipush X dL_plays_268 (v := (500 : Int32)) (by decide) ?_
        have hn := q1.len hrow
        by_cases h5 : 500 < (R1 (k1 % 4)).length
        · refine g_icmp_gt X (tgt := 285) dL_plays_271 (by decide) (fun _ => ?_) (fun h9 => absurd (by rw [show (500 : Int32) = nI 500 from rfl, nq_lt (by omega) (by omega)]; exact h5) h9)
          refine g_iconst X dL_plays_285 (v := (1 : Int32)) (by decide) ?_
          refine g_goto X (tgt := 290) dL_plays_286 (by decide) ?_
          refine g_istore X dL_plays_290 (by decide) (lv' := [(6, .int (1 : Int32)), (9, .int (nI (w9))), (8, .int (nI (k1 % 4))), (7, .int (nI u)), (5, .ref (A 0)), (4, .ref (B 13)), (3, .ref (B (1 + 2))), (2, .ref (B (1 + 1))), (1, .ref (B (1 + 0))), (0, .ref (B 0))]) rfl ?_
          refine g_sub [3, 0, 4, 5, 6, 7, 8, 9] (lv' := [(7, .int (nI u)), (6, .int (1 : Int32)), (5, .ref (A 0)), (4, .ref (B 13)), (3, .ref (B (1 + 2))), (2, .ref (B (1 + 1))), (1, .ref (B (1 + 0))), (0, .ref (B 0))]) rfl ?_
          refine g_wid (k' := 532 + 160 * (u + 1)) (n' := 126145 + 23700 * (u + 1)) (by omega) (by omega) ?_
          exact KN σ1 ρ3 a1 R1 q1 (by omega)
        · refine g_icmp_gt X (tgt := 285) dL_plays_271 (by decide) (fun h9 => absurd h9 (by rw [show (500 : Int32) = nI 500 from rfl, nq_lt (by omega) (by omega)]; exact h5)) (fun _ => ?_)
          refine g_aload X dL_plays_274 4 rfl ?_
          refine g_aload_n X dL_plays_276 rfl 9 rfl ?_
          refine g_iload X dL_plays_277 1 rfl ?_
          refine g_weq (ws9 := lW cy A aK B X8 σ1 ρ3) (List.append_nil _) ?_
          refine h_cI (As := [.ref (A 0), .ref (B 0), .int (nI (k1 % 4))]) X (ZI_ok _ _ _ _ _ _ _ _) (t_layz (D := D) (cy := cy) (aK := aK) (aO := aO) (aS := aS) (aV := aV) (aT := aT) (bS := bS) (bV := bV) (dA := dA) (A := A) (B := B) (X8 := X8) (ρ := ρ3) (row := (k1 % 4)) hl q1 hrow) (va_cwS 3 X.1.2.2.2.2 gZL_plays_L_lays rfl rfl rfl (by decide +kernel) ⟨Nat.le_of_ble_eq_true rfl, Nat.le_of_ble_eq_true rfl⟩) rfl rfl (Nat.le_of_ble_eq_true rfl) ⟨by show 532 + 160 * u + 0 + 149 ≤ 3440; omega, by show 126145 + 23700 * u + 23646 ≤ 552900; omega⟩ dL_plays_279 (k' := 532 + 160 * u + 149) (n' := 126145 + 23700 * u + 23646) (by omega) (by omega) ?_
          rintro r9 u9 ⟨σ4, ρ4, a4, R4, rfl, rfl, qσ4, mσ4⟩
          refine g_weq (ws9 := lW cy A aK B X8 σ4 ρ4 ++ []) (List.append_nil _).symm ?_
          refine g_if_eq X (tgt := 289) dL_plays_282 (by decide) (fun h9 => absurd h9 (by decide)) (fun _ => ?_)
          refine g_iconst X dL_plays_285 (v := (1 : Int32)) (by decide) ?_
          refine g_goto X (tgt := 290) dL_plays_286 (by decide) ?_
          refine g_istore X dL_plays_290 (by decide) (lv' := [(6, .int (1 : Int32)), (9, .int (nI (w9))), (8, .int (nI (k1 % 4))), (7, .int (nI u)), (5, .ref (A 0)), (4, .ref (B 13)), (3, .ref (B (1 + 2))), (2, .ref (B (1 + 1))), (1, .ref (B (1 + 0))), (0, .ref (B 0))]) rfl ?_
          refine g_sub [3, 0, 4, 5, 6, 7, 8, 9] (lv' := [(7, .int (nI u)), (6, .int (1 : Int32)), (5, .ref (A 0)), (4, .ref (B 13)), (3, .ref (B (1 + 2))), (2, .ref (B (1 + 1))), (1, .ref (B (1 + 0))), (0, .ref (B 0))]) rfl ?_
          refine g_wid (k' := 532 + 160 * (u + 1)) (n' := 126145 + 23700 * (u + 1)) (by omega) (by omega) ?_
          exact KN σ4 ρ4 a4 R4 qσ4 (by omega)
      · obtain ⟨σ4, ρ4, R4, e4, q4⟩ := L_sorts q1 (g := 0) (g' := 1) (g2 := 2) (by decide) (by decide) (by decide) (by decide) (by decide) (by decide) hrow (what := w9) (by omega) (by omega) ρ3
        refine g_iload X dL_plays_91 0 rfl ?_
        refine g_iconst X dL_plays_93 (v := (1 : Int32)) (by decide) ?_
        refine g_icmp_lt X (tgt := 123) dL_plays_94 (by decide) (fun h9 => absurd h9 (by rw [nz1, nq_lt (by omega) (by omega)]; omega)) (fun _ => ?_)
        refine g_iload X dL_plays_97 0 rfl ?_
        refine g_iconst X dL_plays_99 (v := (5 : Int32)) (by decide) ?_
        refine g_icmp_gt X (tgt := 123) dL_plays_100 (by decide) (fun h9 => absurd h9 (by rw [show (5 : Int32) = nI 5 from rfl, nq_lt (by omega) (by omega)]; omega)) (fun _ => ?_)
        refine g_aload X dL_plays_103 4 rfl ?_
        refine g_aload_n X dL_plays_105 rfl 9 rfl ?_
        refine g_iload X dL_plays_106 1 rfl ?_
        refine g_iload X dL_plays_108 0 rfl ?_
        refine g_aload_n X dL_plays_110 rfl 8 rfl ?_
        refine g_aload_n X dL_plays_111 rfl 7 rfl ?_
        refine g_aload_n X dL_plays_112 rfl 6 rfl ?_
        refine g_aload X dL_plays_113 5 rfl ?_
        refine h_callI (As := [.ref (A 0), .ref (B 0), .int (nI (k1 % 4)), .int (nI (w9)), .ref (B (1 + 0)), .ref (B (1 + 1)), .ref (B (1 + 2)), .ref (B 13)]) (Wf := lWf cy A aK B (X8 ++ [])) (u := (σ1, ρ3)) (u' := (σ4, ρ4)) (ws9 := lW cy A aK B X8 σ4 ρ4 ++ []) X (ZI_ok _ _ _ _ _ _ _ _) (wI_up (m_L_sorts (a4 := 0) (a5 := 1) (a6 := 2) (by decide) (by decide) (by decide) hl e4)) (va_cwS 8 X.1.2.2.2.2 gZL_plays_L_sorts rfl rfl rfl (by decide +kernel) ⟨Nat.le_of_ble_eq_true rfl, Nat.le_of_ble_eq_true rfl⟩) rfl rfl (Nat.le_of_ble_eq_true rfl) ⟨by show 532 + 160 * u + 0 + 3 ≤ 3440; omega, by show 126145 + 23700 * u + 18 ≤ 552900; omega⟩ dL_plays_115 lW_app lW_app (k' := 532 + 160 * u + 3) (n' := 126145 + 23700 * u + 18) (by omega) (by omega) ?_
        refine g_istore X dL_plays_118 (by decide) (lv' := [(6, .int (nI 1)), (9, .int (nI (w9))), (8, .int (nI (k1 % 4))), (7, .int (nI u)), (5, .ref (A 0)), (4, .ref (B 13)), (3, .ref (B (1 + 2))), (2, .ref (B (1 + 1))), (1, .ref (B (1 + 0))), (0, .ref (B 0))]) rfl ?_
        refine g_goto X (tgt := 292) dL_plays_120 (by decide) ?_
        refine g_sub [3, 0, 4, 5, 6, 7, 8, 9] (lv' := [(7, .int (nI u)), (6, .int (nI 1)), (5, .ref (A 0)), (4, .ref (B 13)), (3, .ref (B (1 + 2))), (2, .ref (B (1 + 1))), (1, .ref (B (1 + 0))), (0, .ref (B 0))]) rfl ?_
        refine g_wid (k' := 532 + 160 * (u + 1)) (n' := 126145 + 23700 * (u + 1)) (by omega) (by omega) ?_
        exact KN σ4 ρ4 a1 R4 q4 (by omega)
      · obtain ⟨σ4, ρ4, R4, e4, q4⟩ := L_moves q1 (g := 0) (g' := 1) (g2 := 2) (by decide) (by decide) (by decide) hrow (what := w9) (by omega) (by omega) ρ3
        refine g_iload X dL_plays_91 0 rfl ?_
        refine g_iconst X dL_plays_93 (v := (1 : Int32)) (by decide) ?_
        refine g_icmp_lt X (tgt := 123) dL_plays_94 (by decide) (fun h9 => absurd h9 (by rw [nz1, nq_lt (by omega) (by omega)]; omega)) (fun _ => ?_)
        refine g_iload X dL_plays_97 0 rfl ?_
        refine g_iconst X dL_plays_99 (v := (5 : Int32)) (by decide) ?_
        refine g_icmp_gt X (tgt := 123) dL_plays_100 (by decide) (fun _ => ?_) (fun h9 => absurd (by rw [show (5 : Int32) = nI 5 from rfl, nq_lt (by omega) (by omega)]; omega) h9)
        refine g_iload X dL_plays_123 0 rfl ?_
        refine g_bipush X dL_plays_125 (v := (6 : Int32)) (by decide) ?_
        refine g_icmp_lt X (tgt := 155) dL_plays_127 (by decide) (fun h9 => absurd h9 (by rw [show (6 : Int32) = nI 6 from rfl, nq_lt (by omega) (by omega)]; omega)) (fun _ => ?_)
        refine g_iload X dL_plays_130 0 rfl ?_
        refine g_bipush X dL_plays_132 (v := (11 : Int32)) (by decide) ?_
        refine g_icmp_gt X (tgt := 155) dL_plays_134 (by decide) (fun h9 => absurd h9 (by rw [show (11 : Int32) = nI 11 from rfl, nq_lt (by omega) (by omega)]; omega)) (fun _ => ?_)
        refine g_aload X dL_plays_137 4 rfl ?_
        refine g_aload_n X dL_plays_139 rfl 9 rfl ?_
        refine g_iload X dL_plays_140 1 rfl ?_
        refine g_iload X dL_plays_142 0 rfl ?_
        refine g_aload_n X dL_plays_144 rfl 8 rfl ?_
        refine g_aload_n X dL_plays_145 rfl 7 rfl ?_
        refine g_aload_n X dL_plays_146 rfl 6 rfl ?_
        refine h_callI (As := [.ref (A 0), .ref (B 0), .int (nI (k1 % 4)), .int (nI (w9)), .ref (B (1 + 0)), .ref (B (1 + 1)), .ref (B (1 + 2))]) (Wf := lWf cy A aK B (X8 ++ [])) (u := (σ1, ρ3)) (u' := (σ4, ρ4)) (ws9 := lW cy A aK B X8 σ4 ρ4 ++ []) X (ZI_ok _ _ _ _ _ _ _ _) (wI_up (m_L_moves (a4 := 0) (a5 := 1) (a6 := 2) (by decide) (by decide) (by decide) hl e4)) (va_cwS 7 X.1.2.2.2.2 gZL_plays_L_moves rfl rfl rfl (by decide +kernel) ⟨Nat.le_of_ble_eq_true rfl, Nat.le_of_ble_eq_true rfl⟩) rfl rfl (Nat.le_of_ble_eq_true rfl) ⟨by show 532 + 160 * u + 0 + 1 ≤ 3440; omega, by show 126145 + 23700 * u + 6 ≤ 552900; omega⟩ dL_plays_147 lW_app lW_app (k' := 532 + 160 * u + 1) (n' := 126145 + 23700 * u + 6) (by omega) (by omega) ?_
        refine g_istore X dL_plays_150 (by decide) (lv' := [(6, .int (nI 1)), (9, .int (nI (w9))), (8, .int (nI (k1 % 4))), (7, .int (nI u)), (5, .ref (A 0)), (4, .ref (B 13)), (3, .ref (B (1 + 2))), (2, .ref (B (1 + 1))), (1, .ref (B (1 + 0))), (0, .ref (B 0))]) rfl ?_
        refine g_goto X (tgt := 292) dL_plays_152 (by decide) ?_
        refine g_sub [3, 0, 4, 5, 6, 7, 8, 9] (lv' := [(7, .int (nI u)), (6, .int (nI 1)), (5, .ref (A 0)), (4, .ref (B 13)), (3, .ref (B (1 + 2))), (2, .ref (B (1 + 1))), (1, .ref (B (1 + 0))), (0, .ref (B 0))]) rfl ?_
        refine g_wid (k' := 532 + 160 * (u + 1)) (n' := 126145 + 23700 * (u + 1)) (by omega) (by omega) ?_
        exact KN σ4 ρ4 a1 R4 q4 (by omega)
      · obtain ⟨σ4, ρ4, R4, e4, q4⟩ := L_sortsAll q1 (g := 0) (g' := 1) (g2 := 2) (by decide) (by decide) (by decide) (by decide) (by decide) ρ3
        refine g_iload X dL_plays_91 0 rfl ?_
        refine g_iconst X dL_plays_93 (v := (1 : Int32)) (by decide) ?_
        refine g_icmp_lt X (tgt := 123) dL_plays_94 (by decide) (fun h9 => absurd h9 (by rw [nz1, nq_lt (by omega) (by omega)]; omega)) (fun _ => ?_)
        refine g_iload X dL_plays_97 0 rfl ?_
        refine g_iconst X dL_plays_99 (v := (5 : Int32)) (by decide) ?_
        refine g_icmp_gt X (tgt := 123) dL_plays_100 (by decide) (fun _ => ?_) (fun h9 => absurd (by rw [show (5 : Int32) = nI 5 from rfl, nq_lt (by omega) (by omega)]; omega) h9)
        refine g_iload X dL_plays_123 0 rfl ?_
        refine g_bipush X dL_plays_125 (v := (6 : Int32)) (by decide) ?_
        refine g_icmp_lt X (tgt := 155) dL_plays_127 (by decide) (fun h9 => absurd h9 (by rw [show (6 : Int32) = nI 6 from rfl, nq_lt (by omega) (by omega)]; omega)) (fun _ => ?_)
        refine g_iload X dL_plays_130 0 rfl ?_
        refine g_bipush X dL_plays_132 (v := (11 : Int32)) (by decide) ?_
        refine g_icmp_gt X (tgt := 155) dL_plays_134 (by decide) (fun _ => ?_) (fun h9 => absurd (by rw [show (11 : Int32) = nI 11 from rfl, nq_lt (by omega) (by omega)]; omega) h9)
        refine g_iload X dL_plays_155 0 rfl ?_
        refine g_bipush X dL_plays_157 (v := (12 : Int32)) (by decide) ?_
        refine g_icmp_ne X (tgt := 177) dL_plays_159 (by decide) (fun h9 => absurd (by rw [show (12 : Int32) = nI 12 from rfl, nq_inj (by omega) (by omega)]; omega) h9) (fun _ => ?_)
        refine g_aload X dL_plays_162 4 rfl ?_
        refine g_aload_n X dL_plays_164 rfl 8 rfl ?_
        refine g_aload_n X dL_plays_165 rfl 7 rfl ?_
        refine g_aload_n X dL_plays_166 rfl 6 rfl ?_
        refine g_aload X dL_plays_167 5 rfl ?_
        refine h_callI (As := [.ref (A 0), .ref (B (1 + 0)), .ref (B (1 + 1)), .ref (B (1 + 2)), .ref (B 13)]) (Wf := lWf cy A aK B (X8 ++ [])) (u := (σ1, ρ3)) (u' := (σ4, ρ4)) (ws9 := lW cy A aK B X8 σ4 ρ4 ++ []) X (ZI_ok _ _ _ _ _ _ _ _) (wI_up (m_L_sortsAll (a1 := 0) (a2 := 1) (a3 := 2) (by decide) (by decide) (by decide) hl e4)) (va_cwS 5 X.1.2.2.2.2 gZL_plays_L_sortsAll rfl rfl rfl (by decide +kernel) ⟨Nat.le_of_ble_eq_true rfl, Nat.le_of_ble_eq_true rfl⟩) rfl rfl (Nat.le_of_ble_eq_true rfl) ⟨by show 532 + 160 * u + 0 + 1 ≤ 3440; omega, by show 126145 + 23700 * u + 6 ≤ 552900; omega⟩ dL_plays_169 lW_app lW_app (k' := 532 + 160 * u + 1) (n' := 126145 + 23700 * u + 6) (by omega) (by omega) ?_
        refine g_istore X dL_plays_172 (by decide) (lv' := [(6, .int (nI 1)), (9, .int (nI (w9))), (8, .int (nI (k1 % 4))), (7, .int (nI u)), (5, .ref (A 0)), (4, .ref (B 13)), (3, .ref (B (1 + 2))), (2, .ref (B (1 + 1))), (1, .ref (B (1 + 0))), (0, .ref (B 0))]) rfl ?_
        refine g_goto X (tgt := 292) dL_plays_174 (by decide) ?_
        refine g_sub [3, 0, 4, 5, 6, 7, 8, 9] (lv' := [(7, .int (nI u)), (6, .int (nI 1)), (5, .ref (A 0)), (4, .ref (B 13)), (3, .ref (B (1 + 2))), (2, .ref (B (1 + 1))), (1, .ref (B (1 + 0))), (0, .ref (B 0))]) rfl ?_
        refine g_wid (k' := 532 + 160 * (u + 1)) (n' := 126145 + 23700 * (u + 1)) (by omega) (by omega) ?_
        exact KN σ4 ρ4 a1 R4 q4 (by omega)
      · obtain ⟨σ4, ρ4, R4, e4, q4⟩ := L_isBoth q1 (g := 0) (g' := 1) (by decide) (by decide) (by decide) hrow ρ3
        refine g_iload X dL_plays_91 0 rfl ?_
        refine g_iconst X dL_plays_93 (v := (1 : Int32)) (by decide) ?_
        refine g_icmp_lt X (tgt := 123) dL_plays_94 (by decide) (fun h9 => absurd h9 (by rw [nz1, nq_lt (by omega) (by omega)]; omega)) (fun _ => ?_)
        refine g_iload X dL_plays_97 0 rfl ?_
        refine g_iconst X dL_plays_99 (v := (5 : Int32)) (by decide) ?_
        refine g_icmp_gt X (tgt := 123) dL_plays_100 (by decide) (fun _ => ?_) (fun h9 => absurd (by rw [show (5 : Int32) = nI 5 from rfl, nq_lt (by omega) (by omega)]; omega) h9)
        refine g_iload X dL_plays_123 0 rfl ?_
        refine g_bipush X dL_plays_125 (v := (6 : Int32)) (by decide) ?_
        refine g_icmp_lt X (tgt := 155) dL_plays_127 (by decide) (fun h9 => absurd h9 (by rw [show (6 : Int32) = nI 6 from rfl, nq_lt (by omega) (by omega)]; omega)) (fun _ => ?_)
        refine g_iload X dL_plays_130 0 rfl ?_
        refine g_bipush X dL_plays_132 (v := (11 : Int32)) (by decide) ?_
        refine g_icmp_gt X (tgt := 155) dL_plays_134 (by decide) (fun _ => ?_) (fun h9 => absurd (by rw [show (11 : Int32) = nI 11 from rfl, nq_lt (by omega) (by omega)]; omega) h9)
        refine g_iload X dL_plays_155 0 rfl ?_
        refine g_bipush X dL_plays_157 (v := (12 : Int32)) (by decide) ?_
        refine g_icmp_ne X (tgt := 177) dL_plays_159 (by decide) (fun _ => ?_) (fun h9 => absurd h9 (by rw [show (12 : Int32) = nI 12 from rfl, nq_inj (by omega) (by omega)]; omega))
        refine g_iload X dL_plays_177 0 rfl ?_
        refine g_bipush X dL_plays_179 (v := (13 : Int32)) (by decide) ?_
        refine g_icmp_ne X (tgt := 200) dL_plays_181 (by decide) (fun h9 => absurd (by rw [show (13 : Int32) = nI 13 from rfl, nq_inj (by omega) (by omega)]; omega) h9) (fun _ => ?_)
        refine g_aload X dL_plays_184 4 rfl ?_
        refine g_iload X dL_plays_186 1 rfl ?_
        refine g_aload_n X dL_plays_188 rfl 8 rfl ?_
        refine g_aload_n X dL_plays_189 rfl 7 rfl ?_
        refine g_aload X dL_plays_190 5 rfl ?_
        refine h_callI (As := [.ref (A 0), .int (nI (k1 % 4)), .ref (B (1 + 0)), .ref (B (1 + 1)), .ref (B 13)]) (Wf := lWf cy A aK B (X8 ++ [])) (u := (σ1, ρ3)) (u' := (σ4, ρ4)) (ws9 := lW cy A aK B X8 σ4 ρ4 ++ []) X (ZI_ok _ _ _ _ _ _ _ _) (wI_up (m_L_isBoth (a2 := 0) (a3 := 1) (by decide) (by decide) hl e4)) (va_cwS 5 X.1.2.2.2.2 gZL_plays_L_isBoth rfl rfl rfl (by decide +kernel) ⟨Nat.le_of_ble_eq_true rfl, Nat.le_of_ble_eq_true rfl⟩) rfl rfl (Nat.le_of_ble_eq_true rfl) ⟨by show 532 + 160 * u + 0 + 5 ≤ 3440; omega, by show 126145 + 23700 * u + 30 ≤ 552900; omega⟩ dL_plays_192 lW_app lW_app (k' := 532 + 160 * u + 5) (n' := 126145 + 23700 * u + 30) (by omega) (by omega) ?_
        refine g_istore X dL_plays_195 (by decide) (lv' := [(6, .int (nI 1)), (9, .int (nI (w9))), (8, .int (nI (k1 % 4))), (7, .int (nI u)), (5, .ref (A 0)), (4, .ref (B 13)), (3, .ref (B (1 + 2))), (2, .ref (B (1 + 1))), (1, .ref (B (1 + 0))), (0, .ref (B 0))]) rfl ?_
        refine g_goto X (tgt := 292) dL_plays_197 (by decide) ?_
        refine g_sub [3, 0, 4, 5, 6, 7, 8, 9] (lv' := [(7, .int (nI u)), (6, .int (nI 1)), (5, .ref (A 0)), (4, .ref (B 13)), (3, .ref (B (1 + 2))), (2, .ref (B (1 + 1))), (1, .ref (B (1 + 0))), (0, .ref (B 0))]) rfl ?_
        refine g_wid (k' := 532 + 160 * (u + 1)) (n' := 126145 + 23700 * (u + 1)) (by omega) (by omega) ?_
        exact KN σ4 ρ4 a1 R4 q4 (by omega)
      · obtain ⟨σ4, ρ4, a4, R4, e4, q4, m4⟩ := L_comes q1 hrow (by omega) ρ3
        refine g_iload X dL_plays_91 0 rfl ?_
        refine g_iconst X dL_plays_93 (v := (1 : Int32)) (by decide) ?_
        refine g_icmp_lt X (tgt := 123) dL_plays_94 (by decide) (fun h9 => absurd h9 (by rw [nz1, nq_lt (by omega) (by omega)]; omega)) (fun _ => ?_)
        refine g_iload X dL_plays_97 0 rfl ?_
        refine g_iconst X dL_plays_99 (v := (5 : Int32)) (by decide) ?_
        refine g_icmp_gt X (tgt := 123) dL_plays_100 (by decide) (fun _ => ?_) (fun h9 => absurd (by rw [show (5 : Int32) = nI 5 from rfl, nq_lt (by omega) (by omega)]; omega) h9)
        refine g_iload X dL_plays_123 0 rfl ?_
        refine g_bipush X dL_plays_125 (v := (6 : Int32)) (by decide) ?_
        refine g_icmp_lt X (tgt := 155) dL_plays_127 (by decide) (fun h9 => absurd h9 (by rw [show (6 : Int32) = nI 6 from rfl, nq_lt (by omega) (by omega)]; omega)) (fun _ => ?_)
        refine g_iload X dL_plays_130 0 rfl ?_
        refine g_bipush X dL_plays_132 (v := (11 : Int32)) (by decide) ?_
        refine g_icmp_gt X (tgt := 155) dL_plays_134 (by decide) (fun _ => ?_) (fun h9 => absurd (by rw [show (11 : Int32) = nI 11 from rfl, nq_lt (by omega) (by omega)]; omega) h9)
        refine g_iload X dL_plays_155 0 rfl ?_
        refine g_bipush X dL_plays_157 (v := (12 : Int32)) (by decide) ?_
        refine g_icmp_ne X (tgt := 177) dL_plays_159 (by decide) (fun _ => ?_) (fun h9 => absurd h9 (by rw [show (12 : Int32) = nI 12 from rfl, nq_inj (by omega) (by omega)]; omega))
        refine g_iload X dL_plays_177 0 rfl ?_
        refine g_bipush X dL_plays_179 (v := (13 : Int32)) (by decide) ?_
        refine g_icmp_ne X (tgt := 200) dL_plays_181 (by decide) (fun _ => ?_) (fun h9 => absurd h9 (by rw [show (13 : Int32) = nI 13 from rfl, nq_inj (by omega) (by omega)]; omega))
        refine g_iload X dL_plays_200 0 rfl ?_
        refine g_bipush X dL_plays_202 (v := (14 : Int32)) (by decide) ?_
        refine g_icmp_ne X (tgt := 220) dL_plays_204 (by decide) (fun h9 => absurd (by rw [show (14 : Int32) = nI 14 from rfl, nq_inj (by omega) (by omega)]; omega) h9) (fun _ => ?_)
        refine g_aload X dL_plays_207 4 rfl ?_
        refine g_aload_n X dL_plays_209 rfl 9 rfl ?_
        refine g_iload X dL_plays_210 1 rfl ?_
        refine h_callI (As := [.ref (A 0), .ref (B 0), .int (nI (k1 % 4))]) (Wf := lWf cy A aK B (X8 ++ [])) (u := (σ1, ρ3)) (u' := (σ4, ρ4)) (ws9 := lW cy A aK B X8 σ4 ρ4 ++ []) X (ZI_ok _ _ _ _ _ _ _ _) (wI_up (m_L_comes hl e4)) (va_cwS 3 X.1.2.2.2.2 gZL_plays_L_comes rfl rfl rfl (by decide +kernel) ⟨Nat.le_of_ble_eq_true rfl, Nat.le_of_ble_eq_true rfl⟩) rfl rfl (Nat.le_of_ble_eq_true rfl) ⟨by show 532 + 160 * u + 0 + 3 ≤ 3440; omega, by show 126145 + 23700 * u + 18 ≤ 552900; omega⟩ dL_plays_212 lW_app lW_app (k' := 532 + 160 * u + 3) (n' := 126145 + 23700 * u + 18) (by omega) (by omega) ?_
        refine g_istore X dL_plays_215 (by decide) (lv' := [(6, .int (nI 1)), (9, .int (nI (w9))), (8, .int (nI (k1 % 4))), (7, .int (nI u)), (5, .ref (A 0)), (4, .ref (B 13)), (3, .ref (B (1 + 2))), (2, .ref (B (1 + 1))), (1, .ref (B (1 + 0))), (0, .ref (B 0))]) rfl ?_
        refine g_goto X (tgt := 292) dL_plays_217 (by decide) ?_
        refine g_sub [3, 0, 4, 5, 6, 7, 8, 9] (lv' := [(7, .int (nI u)), (6, .int (nI 1)), (5, .ref (A 0)), (4, .ref (B 13)), (3, .ref (B (1 + 2))), (2, .ref (B (1 + 1))), (1, .ref (B (1 + 0))), (0, .ref (B 0))]) rfl ?_
        refine g_wid (k' := 532 + 160 * (u + 1)) (n' := 126145 + 23700 * (u + 1)) (by omega) (by omega) ?_
        exact KN σ4 ρ4 a4 R4 q4 (by omega)
      · obtain ⟨σ5, e5, q5⟩ := D_sort q1 hrow (nI 0) (nI 0)
        have hs := srtN_le (a := a1) (t := 0) (q1.len hrow)
        obtain ⟨σ4, ρ4, a4, R4, e4, q4, m4⟩ := L_comes q5 hrow (by omega) ρ3
        refine g_iload X dL_plays_91 0 rfl ?_
        refine g_iconst X dL_plays_93 (v := (1 : Int32)) (by decide) ?_
        refine g_icmp_lt X (tgt := 123) dL_plays_94 (by decide) (fun h9 => absurd h9 (by rw [nz1, nq_lt (by omega) (by omega)]; omega)) (fun _ => ?_)
        refine g_iload X dL_plays_97 0 rfl ?_
        refine g_iconst X dL_plays_99 (v := (5 : Int32)) (by decide) ?_
        refine g_icmp_gt X (tgt := 123) dL_plays_100 (by decide) (fun _ => ?_) (fun h9 => absurd (by rw [show (5 : Int32) = nI 5 from rfl, nq_lt (by omega) (by omega)]; omega) h9)
        refine g_iload X dL_plays_123 0 rfl ?_
        refine g_bipush X dL_plays_125 (v := (6 : Int32)) (by decide) ?_
        refine g_icmp_lt X (tgt := 155) dL_plays_127 (by decide) (fun h9 => absurd h9 (by rw [show (6 : Int32) = nI 6 from rfl, nq_lt (by omega) (by omega)]; omega)) (fun _ => ?_)
        refine g_iload X dL_plays_130 0 rfl ?_
        refine g_bipush X dL_plays_132 (v := (11 : Int32)) (by decide) ?_
        refine g_icmp_gt X (tgt := 155) dL_plays_134 (by decide) (fun _ => ?_) (fun h9 => absurd (by rw [show (11 : Int32) = nI 11 from rfl, nq_lt (by omega) (by omega)]; omega) h9)
        refine g_iload X dL_plays_155 0 rfl ?_
        refine g_bipush X dL_plays_157 (v := (12 : Int32)) (by decide) ?_
        refine g_icmp_ne X (tgt := 177) dL_plays_159 (by decide) (fun _ => ?_) (fun h9 => absurd h9 (by rw [show (12 : Int32) = nI 12 from rfl, nq_inj (by omega) (by omega)]; omega))
        refine g_iload X dL_plays_177 0 rfl ?_
        refine g_bipush X dL_plays_179 (v := (13 : Int32)) (by decide) ?_
        refine g_icmp_ne X (tgt := 200) dL_plays_181 (by decide) (fun _ => ?_) (fun h9 => absurd h9 (by rw [show (13 : Int32) = nI 13 from rfl, nq_inj (by omega) (by omega)]; omega))
        refine g_iload X dL_plays_200 0 rfl ?_
        refine g_bipush X dL_plays_202 (v := (14 : Int32)) (by decide) ?_
        refine g_icmp_ne X (tgt := 220) dL_plays_204 (by decide) (fun _ => ?_) (fun h9 => absurd h9 (by rw [show (14 : Int32) = nI 14 from rfl, nq_inj (by omega) (by omega)]; omega))
        refine g_iload X dL_plays_220 0 rfl ?_
        refine g_bipush X dL_plays_222 (v := (15 : Int32)) (by decide) ?_
        refine g_icmp_ne X (tgt := 261) dL_plays_224 (by decide) (fun h9 => absurd (by rw [show (15 : Int32) = nI 15 from rfl, nq_inj (by omega) (by omega)]; omega) h9) (fun _ => ?_)
        refine g_aload X dL_plays_227 4 rfl ?_
        refine g_iconst X dL_plays_229 (v := (1 : Int32)) (by decide) ?_
        refine g_iload X dL_plays_230 1 rfl ?_
        refine g_iconst X dL_plays_232 (v := (0 : Int32)) (by decide) ?_
        refine g_iconst X dL_plays_233 (v := (0 : Int32)) (by decide) ?_
        refine h_callIT (As := [.ref (A 0), .int (1 : Int32), .int (nI (k1 % 4)), .int (0 : Int32), .int (0 : Int32)]) (Wf := lWf cy A aK B (X8 ++ [])) (u := (σ1, ρ3)) (u' := (σ5, ρ3)) (ws9 := lW cy A aK B X8 σ5 ρ3 ++ []) X (ZI_ok _ _ _ _ _ _ _ _) (wI_up (m_L_done hl e5)) (vx_cwSW 5 X.1.2.2.2.2 gZL_plays_L_done rfl rfl rfl (by decide +kernel) ⟨Nat.le_of_ble_eq_true rfl, Nat.le_of_ble_eq_true rfl⟩) rfl rfl (Nat.le_of_ble_eq_true rfl) ⟨by show 532 + 160 * u + 0 + 1 ≤ 3440; omega, by show 126145 + 23700 * u + 6 ≤ 552900; omega⟩ dL_plays_234 lW_app lW_app (k' := 532 + 160 * u + 1) (n' := 126145 + 23700 * u + 6) (by omega) (by omega) ?_
        refine g_if_lt X (tgt := 255) dL_plays_237 (by decide) (fun h9 => absurd h9 (nI_nn (by omega))) (fun _ => ?_)
        refine g_aload X dL_plays_240 4 rfl ?_
        refine g_aload_n X dL_plays_242 rfl 9 rfl ?_
        refine g_iload X dL_plays_243 1 rfl ?_
        refine h_callI (As := [.ref (A 0), .ref (B 0), .int (nI (k1 % 4))]) (Wf := lWf cy A aK B (X8 ++ [])) (u := (σ5, ρ3)) (u' := (σ4, ρ4)) (ws9 := lW cy A aK B X8 σ4 ρ4 ++ []) X (ZI_ok _ _ _ _ _ _ _ _) (wI_up (m_L_comes hl e4)) (va_cwS 3 X.1.2.2.2.2 gZL_plays_L_comes rfl rfl rfl (by decide +kernel) ⟨Nat.le_of_ble_eq_true rfl, Nat.le_of_ble_eq_true rfl⟩) rfl rfl (Nat.le_of_ble_eq_true rfl) ⟨by show 532 + 160 * u + 1 + 3 ≤ 3440; omega, by show 126145 + 23700 * u + 6 + 18 ≤ 552900; omega⟩ dL_plays_245 lW_app lW_app (k' := 532 + 160 * u + 4) (n' := 126145 + 23700 * u + 6 + 18) (by omega) (by omega) ?_
        refine g_if_eq X (tgt := 255) dL_plays_248 (by decide) (fun h9 => absurd h9 (by decide)) (fun _ => ?_)
        refine g_iconst X dL_plays_251 (v := (1 : Int32)) (by decide) ?_
        refine g_goto X (tgt := 256) dL_plays_252 (by decide) ?_
        refine g_istore X dL_plays_256 (by decide) (lv' := [(6, .int (1 : Int32)), (9, .int (nI (w9))), (8, .int (nI (k1 % 4))), (7, .int (nI u)), (5, .ref (A 0)), (4, .ref (B 13)), (3, .ref (B (1 + 2))), (2, .ref (B (1 + 1))), (1, .ref (B (1 + 0))), (0, .ref (B 0))]) rfl ?_
        refine g_goto X (tgt := 292) dL_plays_258 (by decide) ?_
        refine g_sub [3, 0, 4, 5, 6, 7, 8, 9] (lv' := [(7, .int (nI u)), (6, .int (1 : Int32)), (5, .ref (A 0)), (4, .ref (B 13)), (3, .ref (B (1 + 2))), (2, .ref (B (1 + 1))), (1, .ref (B (1 + 0))), (0, .ref (B 0))]) rfl ?_
        refine g_wid (k' := 532 + 160 * (u + 1)) (n' := 126145 + 23700 * (u + 1)) (by omega) (by omega) ?_
        exact KN σ4 ρ4 a4 R4 q4 (by omega)
      · have c1 := E_count q1 hrow
        refine g_iload X dL_plays_91 0 rfl ?_
        refine g_iconst X dL_plays_93 (v := (1 : Int32)) (by decide) ?_
        refine g_icmp_lt X (tgt := 123) dL_plays_94 (by decide) (fun h9 => absurd h9 (by rw [nz1, nq_lt (by omega) (by omega)]; omega)) (fun _ => ?_)
        refine g_iload X dL_plays_97 0 rfl ?_
        refine g_iconst X dL_plays_99 (v := (5 : Int32)) (by decide) ?_
        refine g_icmp_gt X (tgt := 123) dL_plays_100 (by decide) (fun _ => ?_) (fun h9 => absurd (by rw [show (5 : Int32) = nI 5 from rfl, nq_lt (by omega) (by omega)]; omega) h9)
        refine g_iload X dL_plays_123 0 rfl ?_
        refine g_bipush X dL_plays_125 (v := (6 : Int32)) (by decide) ?_
        refine g_icmp_lt X (tgt := 155) dL_plays_127 (by decide) (fun h9 => absurd h9 (by rw [show (6 : Int32) = nI 6 from rfl, nq_lt (by omega) (by omega)]; omega)) (fun _ => ?_)
        refine g_iload X dL_plays_130 0 rfl ?_
        refine g_bipush X dL_plays_132 (v := (11 : Int32)) (by decide) ?_
        refine g_icmp_gt X (tgt := 155) dL_plays_134 (by decide) (fun _ => ?_) (fun h9 => absurd (by rw [show (11 : Int32) = nI 11 from rfl, nq_lt (by omega) (by omega)]; omega) h9)
        refine g_iload X dL_plays_155 0 rfl ?_
        refine g_bipush X dL_plays_157 (v := (12 : Int32)) (by decide) ?_
        refine g_icmp_ne X (tgt := 177) dL_plays_159 (by decide) (fun _ => ?_) (fun h9 => absurd h9 (by rw [show (12 : Int32) = nI 12 from rfl, nq_inj (by omega) (by omega)]; omega))
        refine g_iload X dL_plays_177 0 rfl ?_
        refine g_bipush X dL_plays_179 (v := (13 : Int32)) (by decide) ?_
        refine g_icmp_ne X (tgt := 200) dL_plays_181 (by decide) (fun _ => ?_) (fun h9 => absurd h9 (by rw [show (13 : Int32) = nI 13 from rfl, nq_inj (by omega) (by omega)]; omega))
        refine g_iload X dL_plays_200 0 rfl ?_
        refine g_bipush X dL_plays_202 (v := (14 : Int32)) (by decide) ?_
        refine g_icmp_ne X (tgt := 220) dL_plays_204 (by decide) (fun _ => ?_) (fun h9 => absurd h9 (by rw [show (14 : Int32) = nI 14 from rfl, nq_inj (by omega) (by omega)]; omega))
        refine g_iload X dL_plays_220 0 rfl ?_
        refine g_bipush X dL_plays_222 (v := (15 : Int32)) (by decide) ?_
        refine g_icmp_ne X (tgt := 261) dL_plays_224 (by decide) (fun _ => ?_) (fun h9 => absurd h9 (by rw [show (15 : Int32) = nI 15 from rfl, nq_inj (by omega) (by omega)]; omega))
        refine g_aload X dL_plays_261 4 rfl ?_
        refine g_iload X dL_plays_263 1 rfl ?_
        refine g_weq (ws9 := lW cy A aK B (X8 ++ []) σ1 ρ3) lW_app.symm ?_
        refine g_xVI_ret (AD := A) (As := [.int (nI (k1 % 4))]) X (ZI_ok _ _ _ _ _ _ _ _) (xI_upI (m_X10_count hl c1)) (cwV 1 X.1.2.2.2.2 gZL_plays_X10_count rfl rfl rfl (by decide +kernel) ⟨Nat.le_of_ble_eq_true rfl, Nat.le_of_ble_eq_true rfl⟩) rfl cm0 (cE_0 cy A aK σ1) rfl rfl (Nat.le_of_ble_eq_true rfl) ⟨by show 532 + 160 * u + 0 + 0 ≤ 3440; omega, by show 126145 + 23700 * u + 0 ≤ 552900; omega⟩ dL_plays_265 (k' := 532 + 160 * u + 0) (n' := 126145 + 23700 * u) (thrC_k _ _) (thrS_k _ _) ?_
        refine g_weq (ws9 := lW cy A aK B X8 σ1 ρ3 ++ []) lW_app ?_
        refine g_sipush X dL_plays_268 (v := (500 : Int32)) (by decide) ?_
        have hn := q1.len hrow
        by_cases h5 : 500 < (R1 (k1 % 4)).length
        · refine g_icmp_gt X (tgt := 285) dL_plays_271 (by decide) (fun _ => ?_) (fun h9 => absurd (by rw [show (500 : Int32) = nI 500 from rfl, nq_lt (by omega) (by omega)]; exact h5) h9)
          refine g_iconst X dL_plays_285 (v := (1 : Int32)) (by decide) ?_
          refine g_goto X (tgt := 290) dL_plays_286 (by decide) ?_
          refine g_istore X dL_plays_290 (by decide) (lv' := [(6, .int (1 : Int32)), (9, .int (nI (w9))), (8, .int (nI (k1 % 4))), (7, .int (nI u)), (5, .ref (A 0)), (4, .ref (B 13)), (3, .ref (B (1 + 2))), (2, .ref (B (1 + 1))), (1, .ref (B (1 + 0))), (0, .ref (B 0))]) rfl ?_
          refine g_sub [3, 0, 4, 5, 6, 7, 8, 9] (lv' := [(7, .int (nI u)), (6, .int (1 : Int32)), (5, .ref (A 0)), (4, .ref (B 13)), (3, .ref (B (1 + 2))), (2, .ref (B (1 + 1))), (1, .ref (B (1 + 0))), (0, .ref (B 0))]) rfl ?_
          refine g_wid (k' := 532 + 160 * (u + 1)) (n' := 126145 + 23700 * (u + 1)) (by omega) (by omega) ?_
          exact KN σ1 ρ3 a1 R1 q1 (by omega)
        · refine g_icmp_gt X (tgt := 285) dL_plays_271 (by decide) (fun h9 => absurd h9 (by rw [show (500 : Int32) = nI 500 from rfl, nq_lt (by omega) (by omega)]; exact h5)) (fun _ => ?_)
          refine g_aload X dL_plays_274 4 rfl ?_
          refine g_aload_n X dL_plays_276 rfl 9 rfl ?_
          refine g_iload X dL_plays_277 1 rfl ?_
          refine g_weq (ws9 := lW cy A aK B X8 σ1 ρ3) (List.append_nil _) ?_
          refine h_cI (As := [.ref (A 0), .ref (B 0), .int (nI (k1 % 4))]) X (ZI_ok _ _ _ _ _ _ _ _) (t_layz (D := D) (cy := cy) (aK := aK) (aO := aO) (aS := aS) (aV := aV) (aT := aT) (bS := bS) (bV := bV) (dA := dA) (A := A) (B := B) (X8 := X8) (ρ := ρ3) (row := (k1 % 4)) hl q1 hrow) (va_cwS 3 X.1.2.2.2.2 gZL_plays_L_lays rfl rfl rfl (by decide +kernel) ⟨Nat.le_of_ble_eq_true rfl, Nat.le_of_ble_eq_true rfl⟩) rfl rfl (Nat.le_of_ble_eq_true rfl) ⟨by show 532 + 160 * u + 0 + 149 ≤ 3440; omega, by show 126145 + 23700 * u + 23646 ≤ 552900; omega⟩ dL_plays_279 (k' := 532 + 160 * u + 149) (n' := 126145 + 23700 * u + 23646) (by omega) (by omega) ?_
          rintro r9 u9 ⟨σ4, ρ4, a4, R4, rfl, rfl, qσ4, mσ4⟩
          refine g_weq (ws9 := lW cy A aK B X8 σ4 ρ4 ++ []) (List.append_nil _).symm ?_
          refine g_if_eq X (tgt := 289) dL_plays_282 (by decide) (fun h9 => absurd h9 (by decide)) (fun _ => ?_)
          refine g_iconst X dL_plays_285 (v := (1 : Int32)) (by decide) ?_
          refine g_goto X (tgt := 290) dL_plays_286 (by decide) ?_
          refine g_istore X dL_plays_290 (by decide) (lv' := [(6, .int (1 : Int32)), (9, .int (nI (w9))), (8, .int (nI (k1 % 4))), (7, .int (nI u)), (5, .ref (A 0)), (4, .ref (B 13)), (3, .ref (B (1 + 2))), (2, .ref (B (1 + 1))), (1, .ref (B (1 + 0))), (0, .ref (B 0))]) rfl ?_
          refine g_sub [3, 0, 4, 5, 6, 7, 8, 9] (lv' := [(7, .int (nI u)), (6, .int (1 : Int32)), (5, .ref (A 0)), (4, .ref (B 13)), (3, .ref (B (1 + 2))), (2, .ref (B (1 + 1))), (1, .ref (B (1 + 0))), (0, .ref (B 0))]) rfl ?_
          refine g_wid (k' := 532 + 160 * (u + 1)) (n' := 126145 + 23700 * (u + 1)) (by omega) (by omega) ?_
          exact KN σ4 ρ4 a4 R4 qσ4 (by omega)
  have KR3 : ∀ (σ1 ρ1 : St) (a1 : AS) (R1 : QR), qIN a1 R1 σ1 → an a1 0 ≤ 2400 → gG p l e rmS_plays s m args below meth c D (cyT cy) B9 10 (MQ below (va_Qi (fun r9 u9 => ∃ ρ9 : St, r9 = 1 ∧ u9 = wF B (lE cy B) lL X8 ρ9) (gAt D (cyT cy) (fun w9 : va_W => w9) B9) B9) args s 3440 552900 B9) (lW cy A aK B X8 σ1 ρ1 ++ []) 532 126145 32 [(7, .int (nI 3)), (6, .int (nI 1)), (5, .ref (A 0)), (4, .ref (B 13)), (3, .ref (B (1 + 2))), (2, .ref (B (1 + 1))), (1, .ref (B (1 + 0))), (0, .ref (B 0))] [] := by
    intro σ1 ρ1 a1 R1 q1 hm
    refine g_iload X dL_plays_32 0 rfl ?_
    refine g_iconst X dL_plays_34 (v := (3 : Int32)) (by decide) ?_
    refine g_icmp_ge X (tgt := 59) dL_plays_35 (by decide) (fun _ => ?_) (fun h9 => absurd (by decide) h9)
    refine g_iconst X dL_plays_59 (v := (0 : Int32)) (by decide) ?_
    refine g_istore X dL_plays_60 (by decide) (lv' := [(7, .int (0 : Int32)), (6, .int (nI 1)), (5, .ref (A 0)), (4, .ref (B 13)), (3, .ref (B (1 + 2))), (2, .ref (B (1 + 1))), (1, .ref (B (1 + 0))), (0, .ref (B 0))]) rfl ?_
    refine g_sub [0, 1, 2, 3, 4, 5, 6, 7] (lv' := [(7, .int (0 : Int32)), (6, .int (nI 1)), (5, .ref (A 0)), (4, .ref (B 13)), (3, .ref (B (1 + 2))), (2, .ref (B (1 + 1))), (1, .ref (B (1 + 0))), (0, .ref (B 0))]) rfl ?_
    exact K62 18 0 σ1 ρ1 a1 R1 (by decide) q1 (by omega)
  have KR2 : ∀ (σ1 ρ1 : St) (a1 : AS) (R1 : QR), qIN a1 R1 σ1 → an a1 0 ≤ 1600 → gG p l e rmS_plays s m args below meth c D (cyT cy) B9 10 (MQ below (va_Qi (fun r9 u9 => ∃ ρ9 : St, r9 = 1 ∧ u9 = wF B (lE cy B) lL X8 ρ9) (gAt D (cyT cy) (fun w9 : va_W => w9) B9) B9) args s 3440 552900 B9) (lW cy A aK B X8 σ1 ρ1 ++ []) 383 102499 32 [(7, .int (nI 2)), (6, .int (nI 1)), (5, .ref (A 0)), (4, .ref (B 13)), (3, .ref (B (1 + 2))), (2, .ref (B (1 + 1))), (1, .ref (B (1 + 0))), (0, .ref (B 0))] [] := by
    intro σ1 ρ1 a1 R1 q1 hm
    refine g_iload X dL_plays_32 0 rfl ?_
    refine g_iconst X dL_plays_34 (v := (3 : Int32)) (by decide) ?_
    refine g_icmp_ge X (tgt := 59) dL_plays_35 (by decide) (fun h9 => absurd h9 (by decide)) (fun _ => ?_)
    refine g_iload X dL_plays_38 1 rfl ?_
    refine g_if_eq X (tgt := 59) dL_plays_40 (by decide) (fun h9 => absurd h9 (by decide)) (fun _ => ?_)
    refine g_aload X dL_plays_43 2 rfl ?_
    refine g_aload_n X dL_plays_45 rfl 7 rfl ?_
    refine g_iload X dL_plays_46 0 rfl ?_
    refine g_weq (ws9 := lW cy A aK B X8 σ1 ρ1) (List.append_nil _) ?_
    refine h_cI (As := [.ref (A 0), .ref (B 0), .int (nI 2)]) X (ZI_ok _ _ _ _ _ _ _ _) (t_layz (D := D) (cy := cy) (aK := aK) (aO := aO) (aS := aS) (aV := aV) (aT := aT) (bS := bS) (bV := bV) (dA := dA) (A := A) (B := B) (X8 := X8) (ρ := ρ1) (row := 2) hl q1 (by decide)) (va_cwS 3 X.1.2.2.2.2 gZL_plays_L_lays rfl rfl rfl (by decide +kernel) ⟨Nat.le_of_ble_eq_true rfl, Nat.le_of_ble_eq_true rfl⟩) rfl rfl (Nat.le_of_ble_eq_true rfl) ⟨by show 383 + 149 ≤ 3440; omega, by show 102499 + 23646 ≤ 552900; omega⟩ dL_plays_48 (k' := 532) (n' := 102499 + 23646) (by omega) (by omega) ?_
    rintro r9 u9 ⟨σ2, ρ2, a2, R2, rfl, rfl, qσ2, mσ2⟩
    refine g_weq (ws9 := lW cy A aK B X8 σ2 ρ2 ++ []) (List.append_nil _).symm ?_
    refine g_istore X dL_plays_51 (by decide) (lv' := [(6, .int 1), (7, .int (nI 2)), (5, .ref (A 0)), (4, .ref (B 13)), (3, .ref (B (1 + 2))), (2, .ref (B (1 + 1))), (1, .ref (B (1 + 0))), (0, .ref (B 0))]) rfl ?_
    refine g_iinc X dL_plays_53 1 rfl (v := nI 3) (by decide) (by decide) (lv' := [(7, .int (nI 3)), (6, .int 1), (5, .ref (A 0)), (4, .ref (B 13)), (3, .ref (B (1 + 2))), (2, .ref (B (1 + 1))), (1, .ref (B (1 + 0))), (0, .ref (B 0))]) rfl ?_
    refine g_goto X (tgt := 32) dL_plays_56 (by decide) ?_
    refine g_sub [0, 1, 2, 3, 4, 5, 6, 7] (lv' := [(7, .int (nI 3)), (6, .int 1), (5, .ref (A 0)), (4, .ref (B 13)), (3, .ref (B (1 + 2))), (2, .ref (B (1 + 1))), (1, .ref (B (1 + 0))), (0, .ref (B 0))]) rfl ?_
    refine g_wid (k' := 532) (n' := 126145) (by omega) (by omega) ?_
    exact KR3 σ2 ρ2 a2 R2 qσ2 (by omega)
  have KR1 : ∀ (σ1 ρ1 : St) (a1 : AS) (R1 : QR), qIN a1 R1 σ1 → an a1 0 ≤ 800 → gG p l e rmS_plays s m args below meth c D (cyT cy) B9 10 (MQ below (va_Qi (fun r9 u9 => ∃ ρ9 : St, r9 = 1 ∧ u9 = wF B (lE cy B) lL X8 ρ9) (gAt D (cyT cy) (fun w9 : va_W => w9) B9) B9) args s 3440 552900 B9) (lW cy A aK B X8 σ1 ρ1 ++ []) 234 78853 32 [(7, .int (nI 1)), (6, .int (nI 1)), (5, .ref (A 0)), (4, .ref (B 13)), (3, .ref (B (1 + 2))), (2, .ref (B (1 + 1))), (1, .ref (B (1 + 0))), (0, .ref (B 0))] [] := by
    intro σ1 ρ1 a1 R1 q1 hm
    refine g_iload X dL_plays_32 0 rfl ?_
    refine g_iconst X dL_plays_34 (v := (3 : Int32)) (by decide) ?_
    refine g_icmp_ge X (tgt := 59) dL_plays_35 (by decide) (fun h9 => absurd h9 (by decide)) (fun _ => ?_)
    refine g_iload X dL_plays_38 1 rfl ?_
    refine g_if_eq X (tgt := 59) dL_plays_40 (by decide) (fun h9 => absurd h9 (by decide)) (fun _ => ?_)
    refine g_aload X dL_plays_43 2 rfl ?_
    refine g_aload_n X dL_plays_45 rfl 7 rfl ?_
    refine g_iload X dL_plays_46 0 rfl ?_
    refine g_weq (ws9 := lW cy A aK B X8 σ1 ρ1) (List.append_nil _) ?_
    refine h_cI (As := [.ref (A 0), .ref (B 0), .int (nI 1)]) X (ZI_ok _ _ _ _ _ _ _ _) (t_layz (D := D) (cy := cy) (aK := aK) (aO := aO) (aS := aS) (aV := aV) (aT := aT) (bS := bS) (bV := bV) (dA := dA) (A := A) (B := B) (X8 := X8) (ρ := ρ1) (row := 1) hl q1 (by decide)) (va_cwS 3 X.1.2.2.2.2 gZL_plays_L_lays rfl rfl rfl (by decide +kernel) ⟨Nat.le_of_ble_eq_true rfl, Nat.le_of_ble_eq_true rfl⟩) rfl rfl (Nat.le_of_ble_eq_true rfl) ⟨by show 234 + 149 ≤ 3440; omega, by show 78853 + 23646 ≤ 552900; omega⟩ dL_plays_48 (k' := 383) (n' := 78853 + 23646) (by omega) (by omega) ?_
    rintro r9 u9 ⟨σ2, ρ2, a2, R2, rfl, rfl, qσ2, mσ2⟩
    refine g_weq (ws9 := lW cy A aK B X8 σ2 ρ2 ++ []) (List.append_nil _).symm ?_
    refine g_istore X dL_plays_51 (by decide) (lv' := [(6, .int 1), (7, .int (nI 1)), (5, .ref (A 0)), (4, .ref (B 13)), (3, .ref (B (1 + 2))), (2, .ref (B (1 + 1))), (1, .ref (B (1 + 0))), (0, .ref (B 0))]) rfl ?_
    refine g_iinc X dL_plays_53 1 rfl (v := nI 2) (by decide) (by decide) (lv' := [(7, .int (nI 2)), (6, .int 1), (5, .ref (A 0)), (4, .ref (B 13)), (3, .ref (B (1 + 2))), (2, .ref (B (1 + 1))), (1, .ref (B (1 + 0))), (0, .ref (B 0))]) rfl ?_
    refine g_goto X (tgt := 32) dL_plays_56 (by decide) ?_
    refine g_sub [0, 1, 2, 3, 4, 5, 6, 7] (lv' := [(7, .int (nI 2)), (6, .int 1), (5, .ref (A 0)), (4, .ref (B 13)), (3, .ref (B (1 + 2))), (2, .ref (B (1 + 1))), (1, .ref (B (1 + 0))), (0, .ref (B 0))]) rfl ?_
    refine g_wid (k' := 383) (n' := 102499) (by omega) (by omega) ?_
    exact KR2 σ2 ρ2 a2 R2 qσ2 (by omega)
  have KR0 : ∀ (σ1 ρ1 : St) (a1 : AS) (R1 : QR), qIN a1 R1 σ1 → an a1 0 ≤ 0 → gG p l e rmS_plays s m args below meth c D (cyT cy) B9 10 (MQ below (va_Qi (fun r9 u9 => ∃ ρ9 : St, r9 = 1 ∧ u9 = wF B (lE cy B) lL X8 ρ9) (gAt D (cyT cy) (fun w9 : va_W => w9) B9) B9) args s 3440 552900 B9) (lW cy A aK B X8 σ1 ρ1 ++ []) 85 55207 32 [(7, .int (nI 0)), (6, .int (nI 1)), (5, .ref (A 0)), (4, .ref (B 13)), (3, .ref (B (1 + 2))), (2, .ref (B (1 + 1))), (1, .ref (B (1 + 0))), (0, .ref (B 0))] [] := by
    intro σ1 ρ1 a1 R1 q1 hm
    refine g_iload X dL_plays_32 0 rfl ?_
    refine g_iconst X dL_plays_34 (v := (3 : Int32)) (by decide) ?_
    refine g_icmp_ge X (tgt := 59) dL_plays_35 (by decide) (fun h9 => absurd h9 (by decide)) (fun _ => ?_)
    refine g_iload X dL_plays_38 1 rfl ?_
    refine g_if_eq X (tgt := 59) dL_plays_40 (by decide) (fun h9 => absurd h9 (by decide)) (fun _ => ?_)
    refine g_aload X dL_plays_43 2 rfl ?_
    refine g_aload_n X dL_plays_45 rfl 7 rfl ?_
    refine g_iload X dL_plays_46 0 rfl ?_
    refine g_weq (ws9 := lW cy A aK B X8 σ1 ρ1) (List.append_nil _) ?_
    refine h_cI (As := [.ref (A 0), .ref (B 0), .int (nI 0)]) X (ZI_ok _ _ _ _ _ _ _ _) (t_layz (D := D) (cy := cy) (aK := aK) (aO := aO) (aS := aS) (aV := aV) (aT := aT) (bS := bS) (bV := bV) (dA := dA) (A := A) (B := B) (X8 := X8) (ρ := ρ1) (row := 0) hl q1 (by decide)) (va_cwS 3 X.1.2.2.2.2 gZL_plays_L_lays rfl rfl rfl (by decide +kernel) ⟨Nat.le_of_ble_eq_true rfl, Nat.le_of_ble_eq_true rfl⟩) rfl rfl (Nat.le_of_ble_eq_true rfl) ⟨by show 85 + 149 ≤ 3440; omega, by show 55207 + 23646 ≤ 552900; omega⟩ dL_plays_48 (k' := 234) (n' := 55207 + 23646) (by omega) (by omega) ?_
    rintro r9 u9 ⟨σ2, ρ2, a2, R2, rfl, rfl, qσ2, mσ2⟩
    refine g_weq (ws9 := lW cy A aK B X8 σ2 ρ2 ++ []) (List.append_nil _).symm ?_
    refine g_istore X dL_plays_51 (by decide) (lv' := [(6, .int 1), (7, .int (nI 0)), (5, .ref (A 0)), (4, .ref (B 13)), (3, .ref (B (1 + 2))), (2, .ref (B (1 + 1))), (1, .ref (B (1 + 0))), (0, .ref (B 0))]) rfl ?_
    refine g_iinc X dL_plays_53 1 rfl (v := nI 1) (by decide) (by decide) (lv' := [(7, .int (nI 1)), (6, .int 1), (5, .ref (A 0)), (4, .ref (B 13)), (3, .ref (B (1 + 2))), (2, .ref (B (1 + 1))), (1, .ref (B (1 + 0))), (0, .ref (B 0))]) rfl ?_
    refine g_goto X (tgt := 32) dL_plays_56 (by decide) ?_
    refine g_sub [0, 1, 2, 3, 4, 5, 6, 7] (lv' := [(7, .int (nI 1)), (6, .int 1), (5, .ref (A 0)), (4, .ref (B 13)), (3, .ref (B (1 + 2))), (2, .ref (B (1 + 1))), (1, .ref (B (1 + 0))), (0, .ref (B 0))]) rfl ?_
    refine g_wid (k' := 234) (n' := 78853) (by omega) (by omega) ?_
    exact KR1 σ2 ρ2 a2 R2 qσ2 (by omega)
  have hin10 : ∀ w ∈ u_ws RX10 TX10 10, w ∈ wzL_plays := by decide +kernel
  obtain ⟨k0, ρ0, hk0, hf0, hr0⟩ := L_next ρ
  refine g_astore X dL_plays_7 (by decide) (lv' := [(5, .ref (A 0)), (0, .ref (B 0)), (1, .ref (B (1 + 0))), (2, .ref (B (1 + 1))), (3, .ref (B (1 + 2))), (4, .ref (B 13))]) rfl ?_
  refine g_aload X dL_plays_9 0 rfl ?_
  refine g_aload_n X dL_plays_11 rfl 1 rfl ?_
  have hz : (ρ : St) = ρ := rfl
  refine h_callI (As := [.ref (B 0)]) (Wf := lWf cy A aK B (X8 ++ [])) (u := (sZ, ρ)) (u' := (sZ, ρ0)) (ws9 := lW cy A aK B X8 sZ ρ0 ++ []) X (ZI_ok _ _ _ _ _ _ _ _) (wI_up (m_L_next hf0)) (va_cwS 1 X.1.2.2.2.2 gZL_plays_L_next rfl rfl rfl (by decide +kernel) ⟨Nat.le_of_ble_eq_true rfl, Nat.le_of_ble_eq_true rfl⟩) rfl rfl (Nat.le_of_ble_eq_true rfl) ⟨by show 85 + 0 ≤ 3440; omega, by show 55207 + 0 ≤ 552900; omega⟩ dL_plays_12 lW_app lW_app (k' := 85) (n' := 55207) (by omega) (by omega) ?_
  refine g_weq (ws9 := lW cy A aK B (X8 ++ []) sZ ρ0) lW_app.symm ?_
  refine g_callVI (AD := A) (As := [.int (nI k0)]) X (ZI_ok _ _ _ _ _ _ _ _) (mI_upI (m_X10_setSeed (E_setSeed qIN_0 (nI k0)).1)) (cwV 1 X.1.2.2.2.2 gZL_plays_X10_setSeed rfl rfl rfl (by decide +kernel) ⟨Nat.le_of_ble_eq_true rfl, Nat.le_of_ble_eq_true rfl⟩) rfl cm0 (cE_0 cy A aK sZ) rfl rfl (Nat.le_of_ble_eq_true rfl) ⟨by show 85 + 0 ≤ 3440; omega, by show 55207 + 0 ≤ 552900; omega⟩ dL_plays_15 ?_
  refine g_weq (ws9 := lW cy A aK B X8 (si sZ 112 (nI k0)) ρ0 ++ []) lW_app ?_
  refine g_iconst X dL_plays_18 (v := (1 : Int32)) (by decide) ?_
  refine g_icmp_ne X (tgt := 26) dL_plays_19 (by decide) (fun h9 => absurd (rfl) h9) (fun _ => ?_)
  refine g_iconst X dL_plays_22 (v := (1 : Int32)) (by decide) ?_
  refine g_goto X (tgt := 27) dL_plays_23 (by decide) ?_
  refine g_istore X dL_plays_27 (by decide) (lv' := [(6, .int (1 : Int32)), (5, .ref (A 0)), (0, .ref (B 0)), (1, .ref (B (1 + 0))), (2, .ref (B (1 + 1))), (3, .ref (B (1 + 2))), (4, .ref (B 13))]) rfl ?_
  refine g_iconst X dL_plays_29 (v := (0 : Int32)) (by decide) ?_
  refine g_istore X dL_plays_30 (by decide) (lv' := [(7, .int (0 : Int32)), (6, .int (1 : Int32)), (5, .ref (A 0)), (0, .ref (B 0)), (1, .ref (B (1 + 0))), (2, .ref (B (1 + 1))), (3, .ref (B (1 + 2))), (4, .ref (B 13))]) rfl ?_
  refine g_sub [0, 1, 2, 7, 6, 5, 4, 3] (lv' := [(7, .int (0 : Int32)), (6, .int (1 : Int32)), (5, .ref (A 0)), (4, .ref (B 13)), (3, .ref (B (1 + 2))), (2, .ref (B (1 + 1))), (1, .ref (B (1 + 0))), (0, .ref (B 0))]) rfl ?_
  exact KR0 (si sZ 112 (nI k0)) ρ0 a0Q (fun _ => []) (E_setSeed qIN_0 (nI k0)).2 (Nat.zero_le _)
end TR6
