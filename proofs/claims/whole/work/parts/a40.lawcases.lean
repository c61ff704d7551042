/-! the law's world and the cases of its switch -/
abbrev LW (cy : Nat → ClassId) (Ac aK Am : Nat → Nat) (qo qd : Nat) (σ τ : St) (fo : Nat → Int64) (fd : Nat → UInt64) : va_W := cW cy Ac aK ((qo, .inl (cy 5, 1, .inr (.inl fo))) :: (qd, .inl (cy 6, 1, .inr (.inr (.inr (.inl fd))))) :: wF Am (mE cy Am) mLs [] τ) σ
abbrev MW (cy : Nat → ClassId) (Ac aK Am : Nat → Nat) (qo qd : Nat) (σ τ : St) (fo : Nat → Int64) (fd : Nat → UInt64) : va_W := mW cy Am ((qo, .inl (cy 5, 1, .inr (.inl fo))) :: (qd, .inl (cy 6, 1, .inr (.inr (.inr (.inl fd))))) :: wF Ac (cE cy Ac aK) cL [] σ) τ
theorem LW_perm (cy : Nat → ClassId) (Ac aK Am : Nat → Nat) (qo qd : Nat) (σ τ : St) (fo : Nat → Int64) (fd : Nat → UInt64) : (LW cy Ac aK Am qo qd σ τ fo fd).Perm (MW cy Ac aK Am qo qd σ τ fo fd) := by
  unfold LW MW cW mW wF
  rw [List.append_nil, List.append_nil]
  generalize (cL.map fun j => (Ac j, cE cy Ac aK σ j)) = P1
  generalize (mLs.map fun j => (Am j, mE cy Am τ j)) = P2
  generalize (qo, (Sum.inl (cy 5, 1, .inr (.inl fo)) : va_E)) = u
  generalize (qd, (Sum.inl (cy 6, 1, .inr (.inr (.inr (.inl fd)))) : va_E)) = v
  have h1 : (P1 ++ u :: v :: P2).Perm ((u :: v :: P2) ++ P1) := List.perm_append_comm
  refine h1.trans ?_
  have h2 : ((u :: v :: P2) ++ P1) = [u, v] ++ (P2 ++ P1) := rfl
  have h3 : (P2 ++ u :: v :: P1) = P2 ++ ([u, v] ++ P1) := rfl
  rw [h2, h3, ← List.append_assoc, ← List.append_assoc]
  exact List.Perm.append_right P1 List.perm_append_comm
theorem cmp_self (x : Int64) : lg_cmp x x = 0 := by
  unfold lg_cmp
  rw [if_neg (by simp), if_pos rfl]
theorem dcmpv_self {x : UInt64} (h : FP.dcmp x x = some .eq) (op : CmpOp) : Op.cmpValue (FP.dcmp x x) op = 0 := by rw [h]; rfl
theorem sorted01 {x : Int32} {σ : St} {v : Int32} (h : f_X10_isSorted x σ = some (.inr v)) : v = 0 ∨ v = 1 := by
  unfold f_X10_isSorted at h
  rcases bndX_some h with ⟨E, _, h⟩ | ⟨r, _, h⟩
  · cases h
  · obtain ⟨w, _, h⟩ := bnd_some h
    obtain ⟨hg, h⟩ := grd_some h
    cases h
    exact Classical.not_not.mp hg
theorem hc123 : Cond.constantLong RL 123 (4294967295) ∈ wzL_law := by decide +kernel
section LC
variable {p : Program} {l : Launch} {e : Env} {s : State} {m : MethodId} {args : Array Value} {below : List Frame} {meth : Method} {c : Code} {D : va_G} {A0 : Nat → Prop} {Q : State → Prop} {cy : Nat → ClassId} {Ac aK Am aO aS aV aT : Nat → Nat} {qo qd b L k n : Nat} {xs : Nat → Int32} {i : Int32} {fo : Nat → Int64} {fd : Nat → UInt64} {a : AS} {σ τ : St}
set_option maxHeartbeats 8000000 in
set_option maxRecDepth 100000 in
theorem law_c0 (X : gC (ZL aK aO aS aV aT) p s m args meth c D (cyT cy) A0 cL_law wzL_law RL 9 ret) (hl : l.stackTraces = false) (hX : va_X b L xs s s.heap) (hbl : b < s.heap.size) (hbA : ¬ A0 b) (h1 : vp_in (i + (1 : Int32)) L) (h2 : vp_in (i + (2 : Int32)) L) (h3 : vp_in (i + (3 : Int32)) L) (h4 : vp_in (i + (4 : Int32)) L) (hk : k + 4 ≤ room_1.cells) (hn : n + 24 ≤ room_1.slots) (h : REL a σ τ)
    (kk : ∀ (σ' τ' : St) (a' : AS) (fo' : Nat → Int64) (fd' : Nat → UInt64), REL a' σ' τ' → gG p l e room_1 s m args below meth c D (cyT cy) A0 9 Q (LW cy Ac aK Am qo qd σ' τ' fo' fd') (k + 4) (n + 24) 2302 [(0, .ref b), (1, .ref (Ac 0)), (2, .ref (Am 0)), (3, .ref qo), (4, .ref qd), (5, .int i)] []) : gG p l e room_1 s m args below meth c D (cyT cy) A0 9 Q (LW cy Ac aK Am qo qd σ τ fo fd) k n 204 [(0, .ref b), (1, .ref (Ac 0)), (2, .ref (Am 0)), (3, .ref qo), (4, .ref qd), (5, .int i)] [] := by
  obtain ⟨r, σ', v, τ', a', hc, hm, hR, ho⟩ := P_type h ((((xs (i + (1 : Int32)).toNatClampNeg).toInt64 <<< ((32 : Int32).toInt64 &&& 63)) ||| ((xs (i + (2 : Int32)).toNatClampNeg).toInt64 &&& (4294967295 : Int64))))
  refine g_aload_n X dL_law_204 rfl 1 rfl ?_
  refine g_aload_n X dL_law_205 rfl 0 rfl ?_
  refine g_iload X dL_law_206 5 rfl ?_
  refine g_iconst X dL_law_208 (v := (1 : Int32)) (by decide) ?_
  refine g_iadd X dL_law_209 ?_
  refine g_scld X hX hbl hbA h1 dL_law_210 ?_
  refine g_i2l X dL_law_211 ?_
  refine g_bipush X dL_law_212 (v := (32 : Int32)) (by decide) ?_
  refine g_lshl X dL_law_214 ?_
  refine g_aload_n X dL_law_215 rfl 0 rfl ?_
  refine g_iload X dL_law_216 5 rfl ?_
  refine g_iconst X dL_law_218 (v := (2 : Int32)) (by decide) ?_
  refine g_iadd X dL_law_219 ?_
  refine g_scld X hX hbl hbA h2 dL_law_220 ?_
  refine g_i2l X dL_law_221 ?_
  refine g_ldc2 X dL_law_222 (v := (4294967295 : Int64)) hc123 ?_
  refine g_land X dL_law_225 ?_
  refine g_lor X dL_law_226 ?_
  refine g_aload_n X dL_law_227 rfl 3 rfl ?_
  have tail : ∀ (kq : Int32) (f9 : Nat → Int64), gi τ' 10 = kq → (kq = 0 → f9 0 = v.toInt64) → gG p l e room_1 s m args below meth c D (cyT cy) A0 9 Q (LW cy Ac aK Am qo qd σ' τ f9 fd) (k + 1) (n + 6) 231 [(0, .ref b), (1, .ref (Ac 0)), (2, .ref (Am 0)), (3, .ref qo), (4, .ref qd), (5, .int i)] [.int kq] := by
    intro kq f9 hq hf
    have fin : gG p l e room_1 s m args below meth c D (cyT cy) A0 9 Q (LW cy Ac aK Am qo qd σ' τ' f9 fd) (k + 1) (n + 6) 289 [(7, .int v), (6, .int kq), (0, .ref b), (1, .ref (Ac 0)), (2, .ref (Am 0)), (3, .ref qo), (4, .ref qd), (5, .int i)] [] := g_goto X (tgt := 2302) dL_law_289 (by decide) (g_sub [2, 3, 4, 5, 6, 7] rfl (g_wid (Nat.add_le_add_left (by decide) k) (Nat.add_le_add_left (by decide) n) (kk _ _ _ _ _ hR)))
    refine g_istore X dL_law_231 (by decide) (lv' := [(6, .int kq), (0, .ref b), (1, .ref (Ac 0)), (2, .ref (Am 0)), (3, .ref qo), (4, .ref qd), (5, .int i)]) rfl ?_
    refine g_aload_n X dL_law_233 rfl 3 rfl ?_
    refine g_aload_n X dL_law_234 rfl 1 rfl ?_
    refine g_iload X dL_law_235 6 rfl ?_
    refine g_iconst X dL_law_237 (v := (1 : Int32)) (by decide) ?_
    refine g_iadd X dL_law_238 ?_
    refine g_scld X hX hbl hbA h1 dL_law_239 ?_
    refine g_i2l X dL_law_240 ?_
    refine g_bipush X dL_law_241 (v := (32 : Int32)) (by decide) ?_
    refine g_lshl X dL_law_243 ?_
    refine g_aload_n X dL_law_244 rfl 1 rfl ?_
    refine g_iload X dL_law_245 6 rfl ?_
    refine g_iconst X dL_law_247 (v := (2 : Int32)) (by decide) ?_
    refine g_iadd X dL_law_248 ?_
    refine g_scld X hX hbl hbA h2 dL_law_249 ?_
    refine g_i2l X dL_law_250 ?_
    refine g_ldc2 X dL_law_251 (v := (4294967295 : Int64)) hc123 ?_
    refine g_land X dL_law_254 ?_
    refine g_lor X dL_law_255 ?_
    refine g_perm (LW_perm cy Ac aK Am qo qd σ' τ f9 fd) ?_
    refine g_callVI (AD := Am) (E := mE cy Am) (L := mLs) (As := [.long (((xs (i + (1 : Int32)).toNatClampNeg).toInt64 <<< ((32 : Int32).toInt64 &&& 63)) ||| ((xs (i + (2 : Int32)).toNatClampNeg).toInt64 &&& (4294967295 : Int64)))]) X (ZL_ok _ _ _ _ _) (mI_up (m_X11_type hm)) (cwV 1 X.1.2.2.2.2 gZ_law_X11_type rfl rfl rfl (by decide +kernel) ⟨Nat.le_of_ble_eq_true rfl, Nat.le_of_ble_eq_true rfl⟩) rfl mm0 (mE_0 cy Am τ) rfl rfl (Nat.le_of_ble_eq_true rfl) ⟨Nat.le_trans (Nat.add_le_add_left (by decide : 1 ≤ 4) k) hk, Nat.le_trans (Nat.add_le_add_left (by decide : 6 ≤ 24) n) hn⟩ dL_law_256 ?_
    refine g_perm (LW_perm cy Ac aK Am qo qd σ' τ' f9 fd).symm ?_
    refine g_istore X dL_law_259 (by decide) (lv' := [(7, .int v), (6, .int kq), (0, .ref b), (1, .ref (Ac 0)), (2, .ref (Am 0)), (3, .ref qo), (4, .ref qd), (5, .int i)]) rfl ?_
    refine g_aload_n X dL_law_261 rfl 4 rfl ?_
    refine g_perm (LW_perm cy Ac aK Am qo qd σ' τ' f9 fd) ?_
    refine g_callVI (AD := Am) (E := mE cy Am) (L := mLs) (As := []) X (ZL_ok _ _ _ _ _) (mI_up (m_X11_thrown (σ := τ') (r := gi τ' 10) rfl)) (cwV 0 X.1.2.2.2.2 gZ_law_X11_thrown rfl rfl rfl (by decide +kernel) ⟨Nat.le_of_ble_eq_true rfl, Nat.le_of_ble_eq_true rfl⟩) rfl mm0 (mE_0 cy Am τ') rfl rfl (Nat.le_of_ble_eq_true rfl) ⟨Nat.le_trans (Nat.add_le_add_left (by decide : 1 ≤ 4) k) hk, Nat.le_trans (Nat.add_le_add_left (by decide : 6 ≤ 24) n) hn⟩ dL_law_262 ?_
    refine g_perm (LW_perm cy Ac aK Am qo qd σ' τ' f9 fd).symm ?_
    refine g_iload X dL_law_265 1 rfl ?_
    refine g_icmp_eq X (tgt := 272) dL_law_267 (by decide) (fun _ => ?_) (fun z => absurd hq z)
    refine g_iload X dL_law_272 1 rfl ?_
    refine g_if_ne X (tgt := 289) dL_law_274 (by decide) (fun _ => fin) (fun z => ?_)
    refine g_aload_n X dL_law_277 rfl 5 rfl ?_
    refine g_iconst X dL_law_278 (v := (0 : Int32)) (by decide) ?_
    refine g_lald X 85 5 (cW_85 _ _ _ _ _) rfl (vp_in_nI (n := 0) (N := 1) (by decide) (by decide)) dL_law_279 ?_
    have hf := hf z
    refine g_iload X dL_law_280 0 rfl ?_
    refine g_i2l X dL_law_282 ?_
    refine g_lcmp X dL_law_283 ?_
    refine g_if_eq X (tgt := 289) dL_law_284 (by decide) (fun _ => fin) (fun z2 => absurd (show lg_cmp (f9 0) (v.toInt64) = 0 by rw [show f9 0 = v.toInt64 from hf]; exact cmp_self _) z2)
  rcases ho with ⟨x, rfl, rfl, h0⟩ | ⟨j, E9, rfl, hE, h0⟩
  · refine g_lawS (Wf := (oL cy Ac aK qo ((qd, .inl (cy 6, 1, .inr (.inr (.inr (.inl fd))))) :: wF Am (mE cy Am) mLs [] τ))) (u := (σ, fo)) (u' := (σ', (vp_updL fo 0 v.toInt64))) (As := [.ref (Ac 0), .long (((xs (i + (1 : Int32)).toNatClampNeg).toInt64 <<< ((32 : Int32).toInt64 &&& 63)) ||| ((xs (i + (2 : Int32)).toNatClampNeg).toInt64 &&& (4294967295 : Int64))), .ref qo]) X (ZL_ok _ _ _ _ _) (w_type_ok hl hc) (vx_cwSW 3 X.1.2.2.2.2 gZ_law_L_type rfl rfl rfl (by decide +kernel) ⟨Nat.le_of_ble_eq_true rfl, Nat.le_of_ble_eq_true rfl⟩) rfl rfl (Nat.le_of_ble_eq_true rfl) ⟨Nat.le_trans (Nat.add_le_add_left (by decide : 1 ≤ 4) k) hk, Nat.le_trans (Nat.add_le_add_left (by decide : 6 ≤ 24) n) hn⟩ dL_law_228 (k' := (k + 1)) (n' := (n + 6)) (Nat.le_refl _) (Nat.le_refl _) rfl rfl ?_
    exact tail 0 _ h0 (fun _ => rfl)
  · match j, hE, h0 with
    | 0, hE, h0 =>
      cases hE
      refine g_lawS (Wf := (oL cy Ac aK qo ((qd, .inl (cy 6, 1, .inr (.inr (.inr (.inl fd))))) :: wF Am (mE cy Am) mLs [] τ))) (u := (σ, fo)) (u' := (σ', fo)) (As := [.ref (Ac 0), .long (((xs (i + (1 : Int32)).toNatClampNeg).toInt64 <<< ((32 : Int32).toInt64 &&& 63)) ||| ((xs (i + (2 : Int32)).toNatClampNeg).toInt64 &&& (4294967295 : Int64))), .ref qo]) X (ZL_ok _ _ _ _ _) (w_type_x1 hl hc) (vx_cwSW 3 X.1.2.2.2.2 gZ_law_L_type rfl rfl rfl (by decide +kernel) ⟨Nat.le_of_ble_eq_true rfl, Nat.le_of_ble_eq_true rfl⟩) rfl rfl (Nat.le_of_ble_eq_true rfl) ⟨Nat.le_trans (Nat.add_le_add_left (by decide : 1 ≤ 4) k) hk, Nat.le_trans (Nat.add_le_add_left (by decide : 6 ≤ 24) n) hn⟩ dL_law_228 (k' := (k + 1)) (n' := (n + 6)) (Nat.le_refl _) (Nat.le_refl _) rfl rfl ?_
      exact tail 1 _ h0 (fun z => absurd z (by decide))
    | j + 1, hE, _ => exact nomatch hE
set_option maxHeartbeats 8000000 in
set_option maxRecDepth 100000 in
theorem law_c1 (X : gC (ZL aK aO aS aV aT) p s m args meth c D (cyT cy) A0 cL_law wzL_law RL 9 ret) (hl : l.stackTraces = false) (hX : va_X b L xs s s.heap) (hbl : b < s.heap.size) (hbA : ¬ A0 b) (h1 : vp_in (i + (1 : Int32)) L) (h2 : vp_in (i + (2 : Int32)) L) (h3 : vp_in (i + (3 : Int32)) L) (h4 : vp_in (i + (4 : Int32)) L) (hk : k + 4 ≤ room_1.cells) (hn : n + 24 ≤ room_1.slots) (h : REL a σ τ)
    (kk : ∀ (σ' τ' : St) (a' : AS) (fo' : Nat → Int64) (fd' : Nat → UInt64), REL a' σ' τ' → gG p l e room_1 s m args below meth c D (cyT cy) A0 9 Q (LW cy Ac aK Am qo qd σ' τ' fo' fd') (k + 4) (n + 24) 2302 [(0, .ref b), (1, .ref (Ac 0)), (2, .ref (Am 0)), (3, .ref qo), (4, .ref qd), (5, .int i)] []) : gG p l e room_1 s m args below meth c D (cyT cy) A0 9 Q (LW cy Ac aK Am qo qd σ τ fo fd) k n 292 [(0, .ref b), (1, .ref (Ac 0)), (2, .ref (Am 0)), (3, .ref qo), (4, .ref qd), (5, .int i)] [] := by
  obtain ⟨x, σ', τ', a', hc, hm, hR⟩ := P_clearText h
  refine g_aload_n X dL_law_292 rfl 1 rfl ?_
  refine g_callVI (AD := Ac) (E := cE cy Ac aK) (L := cL) (As := []) X (ZL_ok _ _ _ _ _) (mI_up (m_X10_clearText hc)) (cwV 0 X.1.2.2.2.2 gZ_law_X10_clearText rfl rfl rfl (by decide +kernel) ⟨Nat.le_of_ble_eq_true rfl, Nat.le_of_ble_eq_true rfl⟩) rfl cm0 (cE_0 cy Ac aK σ) rfl rfl (Nat.le_of_ble_eq_true rfl) ⟨Nat.le_trans (Nat.add_le_add_left (by decide : 0 ≤ 4) k) hk, Nat.le_trans (Nat.add_le_add_left (by decide : 0 ≤ 24) n) hn⟩ dL_law_293 ?_
  refine g_aload_n X dL_law_296 rfl 2 rfl ?_
  refine g_perm (LW_perm cy Ac aK Am qo qd σ' τ fo fd) ?_
  refine g_callVI (AD := Am) (E := mE cy Am) (L := mLs) (As := []) X (ZL_ok _ _ _ _ _) (mI_up (m_X11_clearText hm)) (cwV 0 X.1.2.2.2.2 gZ_law_X11_clearText rfl rfl rfl (by decide +kernel) ⟨Nat.le_of_ble_eq_true rfl, Nat.le_of_ble_eq_true rfl⟩) rfl mm0 (mE_0 cy Am τ) rfl rfl (Nat.le_of_ble_eq_true rfl) ⟨Nat.le_trans (Nat.add_le_add_left (by decide : 0 ≤ 4) k) hk, Nat.le_trans (Nat.add_le_add_left (by decide : 0 ≤ 24) n) hn⟩ dL_law_297 ?_
  refine g_perm (LW_perm cy Ac aK Am qo qd σ' τ' fo fd).symm ?_
  refine g_icmp_eq X (tgt := 2302) dL_law_300 (by decide) (fun _ => g_wid (Nat.le_add_right _ _) (Nat.le_add_right _ _) (kk _ _ _ _ _ hR)) (fun z => absurd rfl z)
set_option maxHeartbeats 8000000 in
set_option maxRecDepth 100000 in
theorem law_c2 (X : gC (ZL aK aO aS aV aT) p s m args meth c D (cyT cy) A0 cL_law wzL_law RL 9 ret) (hl : l.stackTraces = false) (hX : va_X b L xs s s.heap) (hbl : b < s.heap.size) (hbA : ¬ A0 b) (h1 : vp_in (i + (1 : Int32)) L) (h2 : vp_in (i + (2 : Int32)) L) (h3 : vp_in (i + (3 : Int32)) L) (h4 : vp_in (i + (4 : Int32)) L) (hk : k + 4 ≤ room_1.cells) (hn : n + 24 ≤ room_1.slots) (h : REL a σ τ)
    (kk : ∀ (σ' τ' : St) (a' : AS) (fo' : Nat → Int64) (fd' : Nat → UInt64), REL a' σ' τ' → gG p l e room_1 s m args below meth c D (cyT cy) A0 9 Q (LW cy Ac aK Am qo qd σ' τ' fo' fd') (k + 4) (n + 24) 2302 [(0, .ref b), (1, .ref (Ac 0)), (2, .ref (Am 0)), (3, .ref qo), (4, .ref qd), (5, .int i)] []) : gG p l e room_1 s m args below meth c D (cyT cy) A0 9 Q (LW cy Ac aK Am qo qd σ τ fo fd) k n 305 [(0, .ref b), (1, .ref (Ac 0)), (2, .ref (Am 0)), (3, .ref qo), (4, .ref qd), (5, .int i)] [] := by
  obtain ⟨x, σ', τ', a', hc, hm, hR⟩ := P_fault h
  refine g_aload_n X dL_law_305 rfl 1 rfl ?_
  refine g_callVI (AD := Ac) (E := cE cy Ac aK) (L := cL) (As := []) X (ZL_ok _ _ _ _ _) (mI_up (m_X10_fault hc)) (cwV 0 X.1.2.2.2.2 gZ_law_X10_fault rfl rfl rfl (by decide +kernel) ⟨Nat.le_of_ble_eq_true rfl, Nat.le_of_ble_eq_true rfl⟩) rfl cm0 (cE_0 cy Ac aK σ) rfl rfl (Nat.le_of_ble_eq_true rfl) ⟨Nat.le_trans (Nat.add_le_add_left (by decide : 0 ≤ 4) k) hk, Nat.le_trans (Nat.add_le_add_left (by decide : 0 ≤ 24) n) hn⟩ dL_law_306 ?_
  refine g_aload_n X dL_law_309 rfl 2 rfl ?_
  refine g_perm (LW_perm cy Ac aK Am qo qd σ' τ fo fd) ?_
  refine g_callVI (AD := Am) (E := mE cy Am) (L := mLs) (As := []) X (ZL_ok _ _ _ _ _) (mI_up (m_X11_fault hm)) (cwV 0 X.1.2.2.2.2 gZ_law_X11_fault rfl rfl rfl (by decide +kernel) ⟨Nat.le_of_ble_eq_true rfl, Nat.le_of_ble_eq_true rfl⟩) rfl mm0 (mE_0 cy Am τ) rfl rfl (Nat.le_of_ble_eq_true rfl) ⟨Nat.le_trans (Nat.add_le_add_left (by decide : 0 ≤ 4) k) hk, Nat.le_trans (Nat.add_le_add_left (by decide : 0 ≤ 24) n) hn⟩ dL_law_310 ?_
  refine g_perm (LW_perm cy Ac aK Am qo qd σ' τ' fo fd).symm ?_
  refine g_icmp_eq X (tgt := 2302) dL_law_313 (by decide) (fun _ => g_wid (Nat.le_add_right _ _) (Nat.le_add_right _ _) (kk _ _ _ _ _ hR)) (fun z => absurd rfl z)
set_option maxHeartbeats 8000000 in
set_option maxRecDepth 100000 in
theorem law_c3 (X : gC (ZL aK aO aS aV aT) p s m args meth c D (cyT cy) A0 cL_law wzL_law RL 9 ret) (hl : l.stackTraces = false) (hX : va_X b L xs s s.heap) (hbl : b < s.heap.size) (hbA : ¬ A0 b) (h1 : vp_in (i + (1 : Int32)) L) (h2 : vp_in (i + (2 : Int32)) L) (h3 : vp_in (i + (3 : Int32)) L) (h4 : vp_in (i + (4 : Int32)) L) (hk : k + 4 ≤ room_1.cells) (hn : n + 24 ≤ room_1.slots) (h : REL a σ τ)
    (kk : ∀ (σ' τ' : St) (a' : AS) (fo' : Nat → Int64) (fd' : Nat → UInt64), REL a' σ' τ' → gG p l e room_1 s m args below meth c D (cyT cy) A0 9 Q (LW cy Ac aK Am qo qd σ' τ' fo' fd') (k + 4) (n + 24) 2302 [(0, .ref b), (1, .ref (Ac 0)), (2, .ref (Am 0)), (3, .ref qo), (4, .ref qd), (5, .int i)] []) : gG p l e room_1 s m args below meth c D (cyT cy) A0 9 Q (LW cy Ac aK Am qo qd σ τ fo fd) k n 318 [(0, .ref b), (1, .ref (Ac 0)), (2, .ref (Am 0)), (3, .ref qo), (4, .ref qd), (5, .int i)] [] := by
  obtain ⟨r, σ', v, τ', a', hc, hm, hR, ho⟩ := P_lay h ((xs (i + (1 : Int32)).toNatClampNeg))
  refine g_aload_n X dL_law_318 rfl 1 rfl ?_
  refine g_aload_n X dL_law_319 rfl 0 rfl ?_
  refine g_iload X dL_law_320 5 rfl ?_
  refine g_iconst X dL_law_322 (v := (1 : Int32)) (by decide) ?_
  refine g_iadd X dL_law_323 ?_
  refine g_scld X hX hbl hbA h1 dL_law_324 ?_
  refine g_aload_n X dL_law_325 rfl 3 rfl ?_
  have tail : ∀ (kq : Int32) (f9 : Nat → Int64), gi τ' 10 = kq → (kq = 0 → f9 0 = v.toInt64) → gG p l e room_1 s m args below meth c D (cyT cy) A0 9 Q (LW cy Ac aK Am qo qd σ' τ f9 fd) (k + 4) (n + 24) 329 [(0, .ref b), (1, .ref (Ac 0)), (2, .ref (Am 0)), (3, .ref qo), (4, .ref qd), (5, .int i)] [.int kq] := by
    intro kq f9 hq hf
    have fin : gG p l e room_1 s m args below meth c D (cyT cy) A0 9 Q (LW cy Ac aK Am qo qd σ' τ' f9 fd) (k + 4) (n + 24) 371 [(7, .int v), (6, .int kq), (0, .ref b), (1, .ref (Ac 0)), (2, .ref (Am 0)), (3, .ref qo), (4, .ref qd), (5, .int i)] [] := g_goto X (tgt := 2302) dL_law_371 (by decide) (g_sub [2, 3, 4, 5, 6, 7] rfl (g_wid (Nat.add_le_add_left (by decide) k) (Nat.add_le_add_left (by decide) n) (kk _ _ _ _ _ hR)))
    refine g_istore X dL_law_329 (by decide) (lv' := [(6, .int kq), (0, .ref b), (1, .ref (Ac 0)), (2, .ref (Am 0)), (3, .ref qo), (4, .ref qd), (5, .int i)]) rfl ?_
    refine g_aload_n X dL_law_331 rfl 3 rfl ?_
    refine g_aload_n X dL_law_332 rfl 1 rfl ?_
    refine g_iload X dL_law_333 6 rfl ?_
    refine g_iconst X dL_law_335 (v := (1 : Int32)) (by decide) ?_
    refine g_iadd X dL_law_336 ?_
    refine g_scld X hX hbl hbA h1 dL_law_337 ?_
    refine g_perm (LW_perm cy Ac aK Am qo qd σ' τ f9 fd) ?_
    refine g_callVI (AD := Am) (E := mE cy Am) (L := mLs) (As := [.int (xs (i + (1 : Int32)).toNatClampNeg)]) X (ZL_ok _ _ _ _ _) (mI_up (m_X11_lay hm)) (cwV 1 X.1.2.2.2.2 gZ_law_X11_lay rfl rfl rfl (by decide +kernel) ⟨Nat.le_of_ble_eq_true rfl, Nat.le_of_ble_eq_true rfl⟩) rfl mm0 (mE_0 cy Am τ) rfl rfl (Nat.le_of_ble_eq_true rfl) ⟨Nat.le_trans (Nat.add_le_add_left (by decide : 4 ≤ 4) k) hk, Nat.le_trans (Nat.add_le_add_left (by decide : 24 ≤ 24) n) hn⟩ dL_law_338 ?_
    refine g_perm (LW_perm cy Ac aK Am qo qd σ' τ' f9 fd).symm ?_
    refine g_istore X dL_law_341 (by decide) (lv' := [(7, .int v), (6, .int kq), (0, .ref b), (1, .ref (Ac 0)), (2, .ref (Am 0)), (3, .ref qo), (4, .ref qd), (5, .int i)]) rfl ?_
    refine g_aload_n X dL_law_343 rfl 4 rfl ?_
    refine g_perm (LW_perm cy Ac aK Am qo qd σ' τ' f9 fd) ?_
    refine g_callVI (AD := Am) (E := mE cy Am) (L := mLs) (As := []) X (ZL_ok _ _ _ _ _) (mI_up (m_X11_thrown (σ := τ') (r := gi τ' 10) rfl)) (cwV 0 X.1.2.2.2.2 gZ_law_X11_thrown rfl rfl rfl (by decide +kernel) ⟨Nat.le_of_ble_eq_true rfl, Nat.le_of_ble_eq_true rfl⟩) rfl mm0 (mE_0 cy Am τ') rfl rfl (Nat.le_of_ble_eq_true rfl) ⟨Nat.le_trans (Nat.add_le_add_left (by decide : 4 ≤ 4) k) hk, Nat.le_trans (Nat.add_le_add_left (by decide : 24 ≤ 24) n) hn⟩ dL_law_344 ?_
    refine g_perm (LW_perm cy Ac aK Am qo qd σ' τ' f9 fd).symm ?_
    refine g_iload X dL_law_347 1 rfl ?_
    refine g_icmp_eq X (tgt := 354) dL_law_349 (by decide) (fun _ => ?_) (fun z => absurd hq z)
    refine g_iload X dL_law_354 1 rfl ?_
    refine g_if_ne X (tgt := 371) dL_law_356 (by decide) (fun _ => fin) (fun z => ?_)
    refine g_aload_n X dL_law_359 rfl 5 rfl ?_
    refine g_iconst X dL_law_360 (v := (0 : Int32)) (by decide) ?_
    refine g_lald X 85 5 (cW_85 _ _ _ _ _) rfl (vp_in_nI (n := 0) (N := 1) (by decide) (by decide)) dL_law_361 ?_
    have hf := hf z
    refine g_iload X dL_law_362 0 rfl ?_
    refine g_i2l X dL_law_364 ?_
    refine g_lcmp X dL_law_365 ?_
    refine g_if_eq X (tgt := 371) dL_law_366 (by decide) (fun _ => fin) (fun z2 => absurd (show lg_cmp (f9 0) (v.toInt64) = 0 by rw [show f9 0 = v.toInt64 from hf]; exact cmp_self _) z2)
  rcases ho with ⟨x, rfl, rfl, h0⟩ | ⟨j, E9, rfl, hE, h0⟩
  · refine g_lawS (Wf := (oL cy Ac aK qo ((qd, .inl (cy 6, 1, .inr (.inr (.inr (.inl fd))))) :: wF Am (mE cy Am) mLs [] τ))) (u := (σ, fo)) (u' := (σ', (vp_updL fo 0 v.toInt64))) (As := [.ref (Ac 0), .int (xs (i + (1 : Int32)).toNatClampNeg), .ref qo]) X (ZL_ok _ _ _ _ _) (w_lay_ok hl hc) (vx_cwSW 3 X.1.2.2.2.2 gZ_law_L_lay rfl rfl rfl (by decide +kernel) ⟨Nat.le_of_ble_eq_true rfl, Nat.le_of_ble_eq_true rfl⟩) rfl rfl (Nat.le_of_ble_eq_true rfl) ⟨Nat.le_trans (Nat.add_le_add_left (by decide : 4 ≤ 4) k) hk, Nat.le_trans (Nat.add_le_add_left (by decide : 24 ≤ 24) n) hn⟩ dL_law_326 (k' := (k + 4)) (n' := (n + 24)) (Nat.le_refl _) (Nat.le_refl _) rfl rfl ?_
    exact tail 0 _ h0 (fun _ => rfl)
  · match j, hE, h0 with
    | 0, hE, h0 =>
      cases hE
      refine g_lawS (Wf := (oL cy Ac aK qo ((qd, .inl (cy 6, 1, .inr (.inr (.inr (.inl fd))))) :: wF Am (mE cy Am) mLs [] τ))) (u := (σ, fo)) (u' := (σ', fo)) (As := [.ref (Ac 0), .int (xs (i + (1 : Int32)).toNatClampNeg), .ref qo]) X (ZL_ok _ _ _ _ _) (w_lay_x1 hl hc) (vx_cwSW 3 X.1.2.2.2.2 gZ_law_L_lay rfl rfl rfl (by decide +kernel) ⟨Nat.le_of_ble_eq_true rfl, Nat.le_of_ble_eq_true rfl⟩) rfl rfl (Nat.le_of_ble_eq_true rfl) ⟨Nat.le_trans (Nat.add_le_add_left (by decide : 4 ≤ 4) k) hk, Nat.le_trans (Nat.add_le_add_left (by decide : 24 ≤ 24) n) hn⟩ dL_law_326 (k' := (k + 4)) (n' := (n + 24)) (Nat.le_refl _) (Nat.le_refl _) rfl rfl ?_
      exact tail 1 _ h0 (fun z => absurd z (by decide))
    | 1, hE, h0 =>
      cases hE
      refine g_lawS (Wf := (oL cy Ac aK qo ((qd, .inl (cy 6, 1, .inr (.inr (.inr (.inl fd))))) :: wF Am (mE cy Am) mLs [] τ))) (u := (σ, fo)) (u' := (σ', fo)) (As := [.ref (Ac 0), .int (xs (i + (1 : Int32)).toNatClampNeg), .ref qo]) X (ZL_ok _ _ _ _ _) (w_lay_x2 hl hc) (vx_cwSW 3 X.1.2.2.2.2 gZ_law_L_lay rfl rfl rfl (by decide +kernel) ⟨Nat.le_of_ble_eq_true rfl, Nat.le_of_ble_eq_true rfl⟩) rfl rfl (Nat.le_of_ble_eq_true rfl) ⟨Nat.le_trans (Nat.add_le_add_left (by decide : 4 ≤ 4) k) hk, Nat.le_trans (Nat.add_le_add_left (by decide : 24 ≤ 24) n) hn⟩ dL_law_326 (k' := (k + 4)) (n' := (n + 24)) (Nat.le_refl _) (Nat.le_refl _) rfl rfl ?_
      exact tail 2 _ h0 (fun z => absurd z (by decide))
    | j + 2, hE, _ => exact nomatch hE
set_option maxHeartbeats 8000000 in
set_option maxRecDepth 100000 in
theorem law_c4 (X : gC (ZL aK aO aS aV aT) p s m args meth c D (cyT cy) A0 cL_law wzL_law RL 9 ret) (hl : l.stackTraces = false) (hX : va_X b L xs s s.heap) (hbl : b < s.heap.size) (hbA : ¬ A0 b) (h1 : vp_in (i + (1 : Int32)) L) (h2 : vp_in (i + (2 : Int32)) L) (h3 : vp_in (i + (3 : Int32)) L) (h4 : vp_in (i + (4 : Int32)) L) (hk : k + 4 ≤ room_1.cells) (hn : n + 24 ≤ room_1.slots) (h : REL a σ τ)
    (kk : ∀ (σ' τ' : St) (a' : AS) (fo' : Nat → Int64) (fd' : Nat → UInt64), REL a' σ' τ' → gG p l e room_1 s m args below meth c D (cyT cy) A0 9 Q (LW cy Ac aK Am qo qd σ' τ' fo' fd') (k + 4) (n + 24) 2302 [(0, .ref b), (1, .ref (Ac 0)), (2, .ref (Am 0)), (3, .ref qo), (4, .ref qd), (5, .int i)] []) : gG p l e room_1 s m args below meth c D (cyT cy) A0 9 Q (LW cy Ac aK Am qo qd σ τ fo fd) k n 374 [(0, .ref b), (1, .ref (Ac 0)), (2, .ref (Am 0)), (3, .ref qo), (4, .ref qd), (5, .int i)] [] := by
  obtain ⟨r, σ', v, τ', a', hc, hm, hR, ho⟩ := P_put h ((xs (i + (1 : Int32)).toNatClampNeg)) ((xs (i + (2 : Int32)).toNatClampNeg)) ((xs (i + (3 : Int32)).toNatClampNeg)) ((xs (i + (4 : Int32)).toNatClampNeg))
  refine g_aload_n X dL_law_374 rfl 1 rfl ?_
  refine g_aload_n X dL_law_375 rfl 0 rfl ?_
  refine g_iload X dL_law_376 5 rfl ?_
  refine g_iconst X dL_law_378 (v := (1 : Int32)) (by decide) ?_
  refine g_iadd X dL_law_379 ?_
  refine g_scld X hX hbl hbA h1 dL_law_380 ?_
  refine g_aload_n X dL_law_381 rfl 0 rfl ?_
  refine g_iload X dL_law_382 5 rfl ?_
  refine g_iconst X dL_law_384 (v := (2 : Int32)) (by decide) ?_
  refine g_iadd X dL_law_385 ?_
  refine g_scld X hX hbl hbA h2 dL_law_386 ?_
  refine g_aload_n X dL_law_387 rfl 0 rfl ?_
  refine g_iload X dL_law_388 5 rfl ?_
  refine g_iconst X dL_law_390 (v := (3 : Int32)) (by decide) ?_
  refine g_iadd X dL_law_391 ?_
  refine g_scld X hX hbl hbA h3 dL_law_392 ?_
  refine g_aload_n X dL_law_393 rfl 0 rfl ?_
  refine g_iload X dL_law_394 5 rfl ?_
  refine g_iconst X dL_law_396 (v := (4 : Int32)) (by decide) ?_
  refine g_iadd X dL_law_397 ?_
  refine g_scld X hX hbl hbA h4 dL_law_398 ?_
  refine g_aload_n X dL_law_399 rfl 3 rfl ?_
  have tail : ∀ (kq : Int32) (f9 : Nat → Int64), gi τ' 10 = kq → (kq = 0 → f9 0 = v.toInt64) → gG p l e room_1 s m args below meth c D (cyT cy) A0 9 Q (LW cy Ac aK Am qo qd σ' τ f9 fd) (k + 4) (n + 24) 403 [(0, .ref b), (1, .ref (Ac 0)), (2, .ref (Am 0)), (3, .ref qo), (4, .ref qd), (5, .int i)] [.int kq] := by
    intro kq f9 hq hf
    have fin : gG p l e room_1 s m args below meth c D (cyT cy) A0 9 Q (LW cy Ac aK Am qo qd σ' τ' f9 fd) (k + 4) (n + 24) 463 [(7, .int v), (6, .int kq), (0, .ref b), (1, .ref (Ac 0)), (2, .ref (Am 0)), (3, .ref qo), (4, .ref qd), (5, .int i)] [] := g_goto X (tgt := 2302) dL_law_463 (by decide) (g_sub [2, 3, 4, 5, 6, 7] rfl (g_wid (Nat.add_le_add_left (by decide) k) (Nat.add_le_add_left (by decide) n) (kk _ _ _ _ _ hR)))
    refine g_istore X dL_law_403 (by decide) (lv' := [(6, .int kq), (0, .ref b), (1, .ref (Ac 0)), (2, .ref (Am 0)), (3, .ref qo), (4, .ref qd), (5, .int i)]) rfl ?_
    refine g_aload_n X dL_law_405 rfl 3 rfl ?_
    refine g_aload_n X dL_law_406 rfl 1 rfl ?_
    refine g_iload X dL_law_407 6 rfl ?_
    refine g_iconst X dL_law_409 (v := (1 : Int32)) (by decide) ?_
    refine g_iadd X dL_law_410 ?_
    refine g_scld X hX hbl hbA h1 dL_law_411 ?_
    refine g_aload_n X dL_law_412 rfl 1 rfl ?_
    refine g_iload X dL_law_413 6 rfl ?_
    refine g_iconst X dL_law_415 (v := (2 : Int32)) (by decide) ?_
    refine g_iadd X dL_law_416 ?_
    refine g_scld X hX hbl hbA h2 dL_law_417 ?_
    refine g_aload_n X dL_law_418 rfl 1 rfl ?_
    refine g_iload X dL_law_419 6 rfl ?_
    refine g_iconst X dL_law_421 (v := (3 : Int32)) (by decide) ?_
    refine g_iadd X dL_law_422 ?_
    refine g_scld X hX hbl hbA h3 dL_law_423 ?_
    refine g_aload_n X dL_law_424 rfl 1 rfl ?_
    refine g_iload X dL_law_425 6 rfl ?_
    refine g_iconst X dL_law_427 (v := (4 : Int32)) (by decide) ?_
    refine g_iadd X dL_law_428 ?_
    refine g_scld X hX hbl hbA h4 dL_law_429 ?_
    refine g_perm (LW_perm cy Ac aK Am qo qd σ' τ f9 fd) ?_
    refine g_callVI (AD := Am) (E := mE cy Am) (L := mLs) (As := [.int (xs (i + (1 : Int32)).toNatClampNeg), .int (xs (i + (2 : Int32)).toNatClampNeg), .int (xs (i + (3 : Int32)).toNatClampNeg), .int (xs (i + (4 : Int32)).toNatClampNeg)]) X (ZL_ok _ _ _ _ _) (mI_up (m_X11_put hm)) (cwV 4 X.1.2.2.2.2 gZ_law_X11_put rfl rfl rfl (by decide +kernel) ⟨Nat.le_of_ble_eq_true rfl, Nat.le_of_ble_eq_true rfl⟩) rfl mm0 (mE_0 cy Am τ) rfl rfl (Nat.le_of_ble_eq_true rfl) ⟨Nat.le_trans (Nat.add_le_add_left (by decide : 4 ≤ 4) k) hk, Nat.le_trans (Nat.add_le_add_left (by decide : 24 ≤ 24) n) hn⟩ dL_law_430 ?_
    refine g_perm (LW_perm cy Ac aK Am qo qd σ' τ' f9 fd).symm ?_
    refine g_istore X dL_law_433 (by decide) (lv' := [(7, .int v), (6, .int kq), (0, .ref b), (1, .ref (Ac 0)), (2, .ref (Am 0)), (3, .ref qo), (4, .ref qd), (5, .int i)]) rfl ?_
    refine g_aload_n X dL_law_435 rfl 4 rfl ?_
    refine g_perm (LW_perm cy Ac aK Am qo qd σ' τ' f9 fd) ?_
    refine g_callVI (AD := Am) (E := mE cy Am) (L := mLs) (As := []) X (ZL_ok _ _ _ _ _) (mI_up (m_X11_thrown (σ := τ') (r := gi τ' 10) rfl)) (cwV 0 X.1.2.2.2.2 gZ_law_X11_thrown rfl rfl rfl (by decide +kernel) ⟨Nat.le_of_ble_eq_true rfl, Nat.le_of_ble_eq_true rfl⟩) rfl mm0 (mE_0 cy Am τ') rfl rfl (Nat.le_of_ble_eq_true rfl) ⟨Nat.le_trans (Nat.add_le_add_left (by decide : 4 ≤ 4) k) hk, Nat.le_trans (Nat.add_le_add_left (by decide : 24 ≤ 24) n) hn⟩ dL_law_436 ?_
    refine g_perm (LW_perm cy Ac aK Am qo qd σ' τ' f9 fd).symm ?_
    refine g_iload X dL_law_439 1 rfl ?_
    refine g_icmp_eq X (tgt := 446) dL_law_441 (by decide) (fun _ => ?_) (fun z => absurd hq z)
    refine g_iload X dL_law_446 1 rfl ?_
    refine g_if_ne X (tgt := 463) dL_law_448 (by decide) (fun _ => fin) (fun z => ?_)
    refine g_aload_n X dL_law_451 rfl 5 rfl ?_
    refine g_iconst X dL_law_452 (v := (0 : Int32)) (by decide) ?_
    refine g_lald X 85 5 (cW_85 _ _ _ _ _) rfl (vp_in_nI (n := 0) (N := 1) (by decide) (by decide)) dL_law_453 ?_
    have hf := hf z
    refine g_iload X dL_law_454 0 rfl ?_
    refine g_i2l X dL_law_456 ?_
    refine g_lcmp X dL_law_457 ?_
    refine g_if_eq X (tgt := 463) dL_law_458 (by decide) (fun _ => fin) (fun z2 => absurd (show lg_cmp (f9 0) (v.toInt64) = 0 by rw [show f9 0 = v.toInt64 from hf]; exact cmp_self _) z2)
  rcases ho with ⟨x, rfl, rfl, h0⟩ | ⟨j, E9, rfl, hE, h0⟩
  · refine g_lawS (Wf := (oL cy Ac aK qo ((qd, .inl (cy 6, 1, .inr (.inr (.inr (.inl fd))))) :: wF Am (mE cy Am) mLs [] τ))) (u := (σ, fo)) (u' := (σ', (vp_updL fo 0 v.toInt64))) (As := [.ref (Ac 0), .int (xs (i + (1 : Int32)).toNatClampNeg), .int (xs (i + (2 : Int32)).toNatClampNeg), .int (xs (i + (3 : Int32)).toNatClampNeg), .int (xs (i + (4 : Int32)).toNatClampNeg), .ref qo]) X (ZL_ok _ _ _ _ _) (w_put_ok hl hc) (vx_cwSW 6 X.1.2.2.2.2 gZ_law_L_put rfl rfl rfl (by decide +kernel) ⟨Nat.le_of_ble_eq_true rfl, Nat.le_of_ble_eq_true rfl⟩) rfl rfl (Nat.le_of_ble_eq_true rfl) ⟨Nat.le_trans (Nat.add_le_add_left (by decide : 4 ≤ 4) k) hk, Nat.le_trans (Nat.add_le_add_left (by decide : 24 ≤ 24) n) hn⟩ dL_law_400 (k' := (k + 4)) (n' := (n + 24)) (Nat.le_refl _) (Nat.le_refl _) rfl rfl ?_
    exact tail 0 _ h0 (fun _ => rfl)
  · match j, hE, h0 with
    | 0, hE, h0 =>
      cases hE
      refine g_lawS (Wf := (oL cy Ac aK qo ((qd, .inl (cy 6, 1, .inr (.inr (.inr (.inl fd))))) :: wF Am (mE cy Am) mLs [] τ))) (u := (σ, fo)) (u' := (σ', fo)) (As := [.ref (Ac 0), .int (xs (i + (1 : Int32)).toNatClampNeg), .int (xs (i + (2 : Int32)).toNatClampNeg), .int (xs (i + (3 : Int32)).toNatClampNeg), .int (xs (i + (4 : Int32)).toNatClampNeg), .ref qo]) X (ZL_ok _ _ _ _ _) (w_put_x1 hl hc) (vx_cwSW 6 X.1.2.2.2.2 gZ_law_L_put rfl rfl rfl (by decide +kernel) ⟨Nat.le_of_ble_eq_true rfl, Nat.le_of_ble_eq_true rfl⟩) rfl rfl (Nat.le_of_ble_eq_true rfl) ⟨Nat.le_trans (Nat.add_le_add_left (by decide : 4 ≤ 4) k) hk, Nat.le_trans (Nat.add_le_add_left (by decide : 24 ≤ 24) n) hn⟩ dL_law_400 (k' := (k + 4)) (n' := (n + 24)) (Nat.le_refl _) (Nat.le_refl _) rfl rfl ?_
      exact tail 1 _ h0 (fun z => absurd z (by decide))
    | 1, hE, h0 =>
      cases hE
      refine g_lawS (Wf := (oL cy Ac aK qo ((qd, .inl (cy 6, 1, .inr (.inr (.inr (.inl fd))))) :: wF Am (mE cy Am) mLs [] τ))) (u := (σ, fo)) (u' := (σ', fo)) (As := [.ref (Ac 0), .int (xs (i + (1 : Int32)).toNatClampNeg), .int (xs (i + (2 : Int32)).toNatClampNeg), .int (xs (i + (3 : Int32)).toNatClampNeg), .int (xs (i + (4 : Int32)).toNatClampNeg), .ref qo]) X (ZL_ok _ _ _ _ _) (w_put_x2 hl hc) (vx_cwSW 6 X.1.2.2.2.2 gZ_law_L_put rfl rfl rfl (by decide +kernel) ⟨Nat.le_of_ble_eq_true rfl, Nat.le_of_ble_eq_true rfl⟩) rfl rfl (Nat.le_of_ble_eq_true rfl) ⟨Nat.le_trans (Nat.add_le_add_left (by decide : 4 ≤ 4) k) hk, Nat.le_trans (Nat.add_le_add_left (by decide : 24 ≤ 24) n) hn⟩ dL_law_400 (k' := (k + 4)) (n' := (n + 24)) (Nat.le_refl _) (Nat.le_refl _) rfl rfl ?_
      exact tail 2 _ h0 (fun z => absurd z (by decide))
    | j + 2, hE, _ => exact nomatch hE
set_option maxHeartbeats 8000000 in
set_option maxRecDepth 100000 in
theorem law_c5 (X : gC (ZL aK aO aS aV aT) p s m args meth c D (cyT cy) A0 cL_law wzL_law RL 9 ret) (hl : l.stackTraces = false) (hX : va_X b L xs s s.heap) (hbl : b < s.heap.size) (hbA : ¬ A0 b) (h1 : vp_in (i + (1 : Int32)) L) (h2 : vp_in (i + (2 : Int32)) L) (h3 : vp_in (i + (3 : Int32)) L) (h4 : vp_in (i + (4 : Int32)) L) (hk : k + 4 ≤ room_1.cells) (hn : n + 24 ≤ room_1.slots) (h : REL a σ τ)
    (kk : ∀ (σ' τ' : St) (a' : AS) (fo' : Nat → Int64) (fd' : Nat → UInt64), REL a' σ' τ' → gG p l e room_1 s m args below meth c D (cyT cy) A0 9 Q (LW cy Ac aK Am qo qd σ' τ' fo' fd') (k + 4) (n + 24) 2302 [(0, .ref b), (1, .ref (Ac 0)), (2, .ref (Am 0)), (3, .ref qo), (4, .ref qd), (5, .int i)] []) : gG p l e room_1 s m args below meth c D (cyT cy) A0 9 Q (LW cy Ac aK Am qo qd σ τ fo fd) k n 466 [(0, .ref b), (1, .ref (Ac 0)), (2, .ref (Am 0)), (3, .ref qo), (4, .ref qd), (5, .int i)] [] := by
  obtain ⟨x, σ', τ', a', hc, hm, hR⟩ := P_setSeed h ((xs (i + (1 : Int32)).toNatClampNeg))
  refine g_aload_n X dL_law_466 rfl 1 rfl ?_
  refine g_aload_n X dL_law_467 rfl 0 rfl ?_
  refine g_iload X dL_law_468 5 rfl ?_
  refine g_iconst X dL_law_470 (v := (1 : Int32)) (by decide) ?_
  refine g_iadd X dL_law_471 ?_
  refine g_scld X hX hbl hbA h1 dL_law_472 ?_
  refine g_callVI (AD := Ac) (E := cE cy Ac aK) (L := cL) (As := [.int (xs (i + (1 : Int32)).toNatClampNeg)]) X (ZL_ok _ _ _ _ _) (mI_up (m_X10_setSeed hc)) (cwV 1 X.1.2.2.2.2 gZ_law_X10_setSeed rfl rfl rfl (by decide +kernel) ⟨Nat.le_of_ble_eq_true rfl, Nat.le_of_ble_eq_true rfl⟩) rfl cm0 (cE_0 cy Ac aK σ) rfl rfl (Nat.le_of_ble_eq_true rfl) ⟨Nat.le_trans (Nat.add_le_add_left (by decide : 0 ≤ 4) k) hk, Nat.le_trans (Nat.add_le_add_left (by decide : 0 ≤ 24) n) hn⟩ dL_law_473 ?_
  refine g_aload_n X dL_law_476 rfl 2 rfl ?_
  refine g_aload_n X dL_law_477 rfl 0 rfl ?_
  refine g_iload X dL_law_478 5 rfl ?_
  refine g_iconst X dL_law_480 (v := (1 : Int32)) (by decide) ?_
  refine g_iadd X dL_law_481 ?_
  refine g_scld X hX hbl hbA h1 dL_law_482 ?_
  refine g_perm (LW_perm cy Ac aK Am qo qd σ' τ fo fd) ?_
  refine g_callVI (AD := Am) (E := mE cy Am) (L := mLs) (As := [.int (xs (i + (1 : Int32)).toNatClampNeg)]) X (ZL_ok _ _ _ _ _) (mI_up (m_X11_setSeed hm)) (cwV 1 X.1.2.2.2.2 gZ_law_X11_setSeed rfl rfl rfl (by decide +kernel) ⟨Nat.le_of_ble_eq_true rfl, Nat.le_of_ble_eq_true rfl⟩) rfl mm0 (mE_0 cy Am τ) rfl rfl (Nat.le_of_ble_eq_true rfl) ⟨Nat.le_trans (Nat.add_le_add_left (by decide : 0 ≤ 4) k) hk, Nat.le_trans (Nat.add_le_add_left (by decide : 0 ≤ 24) n) hn⟩ dL_law_483 ?_
  refine g_perm (LW_perm cy Ac aK Am qo qd σ' τ' fo fd).symm ?_
  refine g_icmp_eq X (tgt := 2302) dL_law_486 (by decide) (fun _ => g_wid (Nat.le_add_right _ _) (Nat.le_add_right _ _) (kk _ _ _ _ _ hR)) (fun z => absurd rfl z)
set_option maxHeartbeats 8000000 in
set_option maxRecDepth 100000 in
theorem law_c6 (X : gC (ZL aK aO aS aV aT) p s m args meth c D (cyT cy) A0 cL_law wzL_law RL 9 ret) (hl : l.stackTraces = false) (hX : va_X b L xs s s.heap) (hbl : b < s.heap.size) (hbA : ¬ A0 b) (h1 : vp_in (i + (1 : Int32)) L) (h2 : vp_in (i + (2 : Int32)) L) (h3 : vp_in (i + (3 : Int32)) L) (h4 : vp_in (i + (4 : Int32)) L) (hk : k + 4 ≤ room_1.cells) (hn : n + 24 ≤ room_1.slots) (h : REL a σ τ)
    (kk : ∀ (σ' τ' : St) (a' : AS) (fo' : Nat → Int64) (fd' : Nat → UInt64), REL a' σ' τ' → gG p l e room_1 s m args below meth c D (cyT cy) A0 9 Q (LW cy Ac aK Am qo qd σ' τ' fo' fd') (k + 4) (n + 24) 2302 [(0, .ref b), (1, .ref (Ac 0)), (2, .ref (Am 0)), (3, .ref qo), (4, .ref qd), (5, .int i)] []) : gG p l e room_1 s m args below meth c D (cyT cy) A0 9 Q (LW cy Ac aK Am qo qd σ τ fo fd) k n 491 [(0, .ref b), (1, .ref (Ac 0)), (2, .ref (Am 0)), (3, .ref qo), (4, .ref qd), (5, .int i)] [] := by
  obtain ⟨r, σ', v, τ', a', hc, hm, hR, ho⟩ := P_sort h ((xs (i + (1 : Int32)).toNatClampNeg))
  refine g_aload_n X dL_law_491 rfl 1 rfl ?_
  refine g_aload_n X dL_law_492 rfl 0 rfl ?_
  refine g_iload X dL_law_493 5 rfl ?_
  refine g_iconst X dL_law_495 (v := (1 : Int32)) (by decide) ?_
  refine g_iadd X dL_law_496 ?_
  refine g_scld X hX hbl hbA h1 dL_law_497 ?_
  refine g_aload_n X dL_law_498 rfl 3 rfl ?_
  have tail : ∀ (kq : Int32) (f9 : Nat → Int64), gi τ' 10 = kq → (kq = 0 → f9 0 = v.toInt64) → gG p l e room_1 s m args below meth c D (cyT cy) A0 9 Q (LW cy Ac aK Am qo qd σ' τ f9 fd) (k + 1) (n + 6) 502 [(0, .ref b), (1, .ref (Ac 0)), (2, .ref (Am 0)), (3, .ref qo), (4, .ref qd), (5, .int i)] [.int kq] := by
    intro kq f9 hq hf
    have fin : gG p l e room_1 s m args below meth c D (cyT cy) A0 9 Q (LW cy Ac aK Am qo qd σ' τ' f9 fd) (k + 1) (n + 6) 544 [(7, .int v), (6, .int kq), (0, .ref b), (1, .ref (Ac 0)), (2, .ref (Am 0)), (3, .ref qo), (4, .ref qd), (5, .int i)] [] := g_goto X (tgt := 2302) dL_law_544 (by decide) (g_sub [2, 3, 4, 5, 6, 7] rfl (g_wid (Nat.add_le_add_left (by decide) k) (Nat.add_le_add_left (by decide) n) (kk _ _ _ _ _ hR)))
    refine g_istore X dL_law_502 (by decide) (lv' := [(6, .int kq), (0, .ref b), (1, .ref (Ac 0)), (2, .ref (Am 0)), (3, .ref qo), (4, .ref qd), (5, .int i)]) rfl ?_
    refine g_aload_n X dL_law_504 rfl 3 rfl ?_
    refine g_aload_n X dL_law_505 rfl 1 rfl ?_
    refine g_iload X dL_law_506 6 rfl ?_
    refine g_iconst X dL_law_508 (v := (1 : Int32)) (by decide) ?_
    refine g_iadd X dL_law_509 ?_
    refine g_scld X hX hbl hbA h1 dL_law_510 ?_
    refine g_perm (LW_perm cy Ac aK Am qo qd σ' τ f9 fd) ?_
    refine g_callVI (AD := Am) (E := mE cy Am) (L := mLs) (As := [.int (xs (i + (1 : Int32)).toNatClampNeg)]) X (ZL_ok _ _ _ _ _) (mI_up (m_X11_sort hm)) (cwV 1 X.1.2.2.2.2 gZ_law_X11_sort rfl rfl rfl (by decide +kernel) ⟨Nat.le_of_ble_eq_true rfl, Nat.le_of_ble_eq_true rfl⟩) rfl mm0 (mE_0 cy Am τ) rfl rfl (Nat.le_of_ble_eq_true rfl) ⟨Nat.le_trans (Nat.add_le_add_left (by decide : 1 ≤ 4) k) hk, Nat.le_trans (Nat.add_le_add_left (by decide : 6 ≤ 24) n) hn⟩ dL_law_511 ?_
    refine g_perm (LW_perm cy Ac aK Am qo qd σ' τ' f9 fd).symm ?_
    refine g_istore X dL_law_514 (by decide) (lv' := [(7, .int v), (6, .int kq), (0, .ref b), (1, .ref (Ac 0)), (2, .ref (Am 0)), (3, .ref qo), (4, .ref qd), (5, .int i)]) rfl ?_
    refine g_aload_n X dL_law_516 rfl 4 rfl ?_
    refine g_perm (LW_perm cy Ac aK Am qo qd σ' τ' f9 fd) ?_
    refine g_callVI (AD := Am) (E := mE cy Am) (L := mLs) (As := []) X (ZL_ok _ _ _ _ _) (mI_up (m_X11_thrown (σ := τ') (r := gi τ' 10) rfl)) (cwV 0 X.1.2.2.2.2 gZ_law_X11_thrown rfl rfl rfl (by decide +kernel) ⟨Nat.le_of_ble_eq_true rfl, Nat.le_of_ble_eq_true rfl⟩) rfl mm0 (mE_0 cy Am τ') rfl rfl (Nat.le_of_ble_eq_true rfl) ⟨Nat.le_trans (Nat.add_le_add_left (by decide : 1 ≤ 4) k) hk, Nat.le_trans (Nat.add_le_add_left (by decide : 6 ≤ 24) n) hn⟩ dL_law_517 ?_
    refine g_perm (LW_perm cy Ac aK Am qo qd σ' τ' f9 fd).symm ?_
    refine g_iload X dL_law_520 1 rfl ?_
    refine g_icmp_eq X (tgt := 527) dL_law_522 (by decide) (fun _ => ?_) (fun z => absurd hq z)
    refine g_iload X dL_law_527 1 rfl ?_
    refine g_if_ne X (tgt := 544) dL_law_529 (by decide) (fun _ => fin) (fun z => ?_)
    refine g_aload_n X dL_law_532 rfl 5 rfl ?_
    refine g_iconst X dL_law_533 (v := (0 : Int32)) (by decide) ?_
    refine g_lald X 85 5 (cW_85 _ _ _ _ _) rfl (vp_in_nI (n := 0) (N := 1) (by decide) (by decide)) dL_law_534 ?_
    have hf := hf z
    refine g_iload X dL_law_535 0 rfl ?_
    refine g_i2l X dL_law_537 ?_
    refine g_lcmp X dL_law_538 ?_
    refine g_if_eq X (tgt := 544) dL_law_539 (by decide) (fun _ => fin) (fun z2 => absurd (show lg_cmp (f9 0) (v.toInt64) = 0 by rw [show f9 0 = v.toInt64 from hf]; exact cmp_self _) z2)
  rcases ho with ⟨x, rfl, rfl, h0⟩ | ⟨j, E9, rfl, hE, h0⟩
  · refine g_lawS (Wf := (oL cy Ac aK qo ((qd, .inl (cy 6, 1, .inr (.inr (.inr (.inl fd))))) :: wF Am (mE cy Am) mLs [] τ))) (u := (σ, fo)) (u' := (σ', (vp_updL fo 0 v.toInt64))) (As := [.ref (Ac 0), .int (xs (i + (1 : Int32)).toNatClampNeg), .ref qo]) X (ZL_ok _ _ _ _ _) (w_sort_ok hl hc) (vx_cwSW 3 X.1.2.2.2.2 gZ_law_L_sort rfl rfl rfl (by decide +kernel) ⟨Nat.le_of_ble_eq_true rfl, Nat.le_of_ble_eq_true rfl⟩) rfl rfl (Nat.le_of_ble_eq_true rfl) ⟨Nat.le_trans (Nat.add_le_add_left (by decide : 1 ≤ 4) k) hk, Nat.le_trans (Nat.add_le_add_left (by decide : 6 ≤ 24) n) hn⟩ dL_law_499 (k' := (k + 1)) (n' := (n + 6)) (Nat.le_refl _) (Nat.le_refl _) rfl rfl ?_
    exact tail 0 _ h0 (fun _ => rfl)
  · match j, hE, h0 with
    | 0, hE, h0 =>
      cases hE
      refine g_lawS (Wf := (oL cy Ac aK qo ((qd, .inl (cy 6, 1, .inr (.inr (.inr (.inl fd))))) :: wF Am (mE cy Am) mLs [] τ))) (u := (σ, fo)) (u' := (σ', fo)) (As := [.ref (Ac 0), .int (xs (i + (1 : Int32)).toNatClampNeg), .ref qo]) X (ZL_ok _ _ _ _ _) (w_sort_x1 hl hc) (vx_cwSW 3 X.1.2.2.2.2 gZ_law_L_sort rfl rfl rfl (by decide +kernel) ⟨Nat.le_of_ble_eq_true rfl, Nat.le_of_ble_eq_true rfl⟩) rfl rfl (Nat.le_of_ble_eq_true rfl) ⟨Nat.le_trans (Nat.add_le_add_left (by decide : 1 ≤ 4) k) hk, Nat.le_trans (Nat.add_le_add_left (by decide : 6 ≤ 24) n) hn⟩ dL_law_499 (k' := (k + 1)) (n' := (n + 6)) (Nat.le_refl _) (Nat.le_refl _) rfl rfl ?_
      exact tail 1 _ h0 (fun z => absurd z (by decide))
    | j + 1, hE, _ => exact nomatch hE
set_option maxHeartbeats 8000000 in
set_option maxRecDepth 100000 in
theorem law_c7 (X : gC (ZL aK aO aS aV aT) p s m args meth c D (cyT cy) A0 cL_law wzL_law RL 9 ret) (hl : l.stackTraces = false) (hX : va_X b L xs s s.heap) (hbl : b < s.heap.size) (hbA : ¬ A0 b) (h1 : vp_in (i + (1 : Int32)) L) (h2 : vp_in (i + (2 : Int32)) L) (h3 : vp_in (i + (3 : Int32)) L) (h4 : vp_in (i + (4 : Int32)) L) (hk : k + 4 ≤ room_1.cells) (hn : n + 24 ≤ room_1.slots) (h : REL a σ τ)
    (kk : ∀ (σ' τ' : St) (a' : AS) (fo' : Nat → Int64) (fd' : Nat → UInt64), REL a' σ' τ' → gG p l e room_1 s m args below meth c D (cyT cy) A0 9 Q (LW cy Ac aK Am qo qd σ' τ' fo' fd') (k + 4) (n + 24) 2302 [(0, .ref b), (1, .ref (Ac 0)), (2, .ref (Am 0)), (3, .ref qo), (4, .ref qd), (5, .int i)] []) : gG p l e room_1 s m args below meth c D (cyT cy) A0 9 Q (LW cy Ac aK Am qo qd σ τ fo fd) k n 547 [(0, .ref b), (1, .ref (Ac 0)), (2, .ref (Am 0)), (3, .ref qo), (4, .ref qd), (5, .int i)] [] := by
  obtain ⟨x, σ', τ', a', hc, hm, hR⟩ := P_sortAll h
  refine g_aload_n X dL_law_547 rfl 1 rfl ?_
  refine g_callVI (AD := Ac) (E := cE cy Ac aK) (L := cL) (As := []) X (ZL_ok _ _ _ _ _) (mI_up (m_X10_sortAll hc)) (cwV 0 X.1.2.2.2.2 gZ_law_X10_sortAll rfl rfl rfl (by decide +kernel) ⟨Nat.le_of_ble_eq_true rfl, Nat.le_of_ble_eq_true rfl⟩) rfl cm0 (cE_0 cy Ac aK σ) rfl rfl (Nat.le_of_ble_eq_true rfl) ⟨Nat.le_trans (Nat.add_le_add_left (by decide : 0 ≤ 4) k) hk, Nat.le_trans (Nat.add_le_add_left (by decide : 0 ≤ 24) n) hn⟩ dL_law_548 ?_
  refine g_aload_n X dL_law_551 rfl 2 rfl ?_
  refine g_perm (LW_perm cy Ac aK Am qo qd σ' τ fo fd) ?_
  refine g_callVI (AD := Am) (E := mE cy Am) (L := mLs) (As := []) X (ZL_ok _ _ _ _ _) (mI_up (m_X11_sortAll hm)) (cwV 0 X.1.2.2.2.2 gZ_law_X11_sortAll rfl rfl rfl (by decide +kernel) ⟨Nat.le_of_ble_eq_true rfl, Nat.le_of_ble_eq_true rfl⟩) rfl mm0 (mE_0 cy Am τ) rfl rfl (Nat.le_of_ble_eq_true rfl) ⟨Nat.le_trans (Nat.add_le_add_left (by decide : 0 ≤ 4) k) hk, Nat.le_trans (Nat.add_le_add_left (by decide : 0 ≤ 24) n) hn⟩ dL_law_552 ?_
  refine g_perm (LW_perm cy Ac aK Am qo qd σ' τ' fo fd).symm ?_
  refine g_icmp_eq X (tgt := 2302) dL_law_555 (by decide) (fun _ => g_wid (Nat.le_add_right _ _) (Nat.le_add_right _ _) (kk _ _ _ _ _ hR)) (fun z => absurd rfl z)
end LC
