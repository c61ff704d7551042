/-! the law's loop -/
theorem end_key : ∀ L : Nat, L < 5 → (Int32.ofNat L - (5 : Int32)).toInt = (L : Int) - 5 := by decide
section LL
variable {p : Program} {l : Launch} {e : Env} {s : State} {m : MethodId} {args : Array Value} {below : List Frame} {meth : Method} {c : Code} {D : va_G} {A0 : Nat → Prop} {Q : State → Prop} {cy : Nat → ClassId} {Ac aK Am aO aS aV aT : Nat → Nat} {qo qd b L : Nat} {xs : Nat → Int32}
set_option maxHeartbeats 8000000 in
set_option maxRecDepth 100000 in
theorem law_sw (X : gC (ZL aK aO aS aV aT) p s m args meth c D (cyT cy) A0 cL_law wzL_law RL 9 ret) (hl : l.stackTraces = false) (hX : va_X b L xs s s.heap) (hbl : b < s.heap.size) (hbA : ¬ A0 b) (hL : L ≤ 2560) {k n : Nat} {i : Int32} {fo : Nat → Int64} {fd : Nat → UInt64} {a : AS} {σ τ : St} (h1 : vp_in (i + (1 : Int32)) L) (h2 : vp_in (i + (2 : Int32)) L) (h3 : vp_in (i + (3 : Int32)) L) (h4 : vp_in (i + (4 : Int32)) L) (hk : k + 4 ≤ room_1.cells) (hn : n + 24 ≤ room_1.slots) (h : REL a σ τ) (v : Int32)
    (kk : ∀ (σ' τ' : St) (a' : AS) (fo' : Nat → Int64) (fd' : Nat → UInt64), REL a' σ' τ' → gG p l e room_1 s m args below meth c D (cyT cy) A0 9 Q (LW cy Ac aK Am qo qd σ' τ' fo' fd') (k + 4) (n + 24) 2302 [(0, .ref b), (1, .ref (Ac 0)), (2, .ref (Am 0)), (3, .ref qo), (4, .ref qd), (5, .int i)] []) : gG p l e room_1 s m args below meth c D (cyT cy) A0 9 Q (LW cy Ac aK Am qo qd σ τ fo fd) k n 44 [(0, .ref b), (1, .ref (Ac 0)), (2, .ref (Am 0)), (3, .ref qo), (4, .ref qd), (5, .int i)] [.int v] := by
  by_cases ho : v.toInt < 0 ∨ 35 < v.toInt
  · refine g_tabOut X (tgt := 2302) dL_law_44 ho (by decide) ?_
    exact g_wid (Nat.le_add_right _ _) (Nat.le_add_right _ _) (kk σ τ a fo fd h)
  · have hv : ∃ z : Nat, z < 36 ∧ v.toInt = (z : Int) := ⟨v.toInt.toNat, by omega, by omega⟩
    obtain ⟨z, hz, hv⟩ := hv
    match z, hz, hv with
    | 0, _, hv => exact g_tabIn X (offq := 160) (tgt := 204) dL_law_44 (by omega) (by omega) (by rw [hv]; rfl) (by decide) (law_c0 X hl hX hbl hbA h1 h2 h3 h4 hk hn h kk)
    | 1, _, hv => exact g_tabIn X (offq := 248) (tgt := 292) dL_law_44 (by omega) (by omega) (by rw [hv]; rfl) (by decide) (law_c1 X hl hX hbl hbA h1 h2 h3 h4 hk hn h kk)
    | 2, _, hv => exact g_tabIn X (offq := 261) (tgt := 305) dL_law_44 (by omega) (by omega) (by rw [hv]; rfl) (by decide) (law_c2 X hl hX hbl hbA h1 h2 h3 h4 hk hn h kk)
    | 3, _, hv => exact g_tabIn X (offq := 274) (tgt := 318) dL_law_44 (by omega) (by omega) (by rw [hv]; rfl) (by decide) (law_c3 X hl hX hbl hbA h1 h2 h3 h4 hk hn h kk)
    | 4, _, hv => exact g_tabIn X (offq := 330) (tgt := 374) dL_law_44 (by omega) (by omega) (by rw [hv]; rfl) (by decide) (law_c4 X hl hX hbl hbA h1 h2 h3 h4 hk hn h kk)
    | 5, _, hv => exact g_tabIn X (offq := 422) (tgt := 466) dL_law_44 (by omega) (by omega) (by rw [hv]; rfl) (by decide) (law_c5 X hl hX hbl hbA h1 h2 h3 h4 hk hn h kk)
    | 6, _, hv => exact g_tabIn X (offq := 447) (tgt := 491) dL_law_44 (by omega) (by omega) (by rw [hv]; rfl) (by decide) (law_c6 X hl hX hbl hbA h1 h2 h3 h4 hk hn h kk)
    | 7, _, hv => exact g_tabIn X (offq := 503) (tgt := 547) dL_law_44 (by omega) (by omega) (by rw [hv]; rfl) (by decide) (law_c7 X hl hX hbl hbA h1 h2 h3 h4 hk hn h kk)
    | 8, _, hv => exact g_tabIn X (offq := 516) (tgt := 560) dL_law_44 (by omega) (by omega) (by rw [hv]; rfl) (by decide) (law_c8 X hl hX hbl hbA h1 h2 h3 h4 hk hn h kk)
    | 9, _, hv => exact g_tabIn X (offq := 596) (tgt := 640) dL_law_44 (by omega) (by omega) (by rw [hv]; rfl) (by decide) (law_c9 X hl hX hbl hbA h1 h2 h3 h4 hk hn h kk)
    | 10, _, hv => exact g_tabIn X (offq := 676) (tgt := 720) dL_law_44 (by omega) (by omega) (by rw [hv]; rfl) (by decide) (law_c10 X hl hX hbl hbA h1 h2 h3 h4 hk hn h kk)
    | 11, _, hv => exact g_tabIn X (offq := 732) (tgt := 776) dL_law_44 (by omega) (by omega) (by rw [hv]; rfl) (by decide) (law_c11 X hl hX hbl hbA h1 h2 h3 h4 hk hn h kk)
    | 12, _, hv => exact g_tabIn X (offq := 788) (tgt := 832) dL_law_44 (by omega) (by omega) (by rw [hv]; rfl) (by decide) (law_c12 X hl hX hbl hbA h1 h2 h3 h4 hk hn h kk)
    | 13, _, hv => exact g_tabIn X (offq := 856) (tgt := 900) dL_law_44 (by omega) (by omega) (by rw [hv]; rfl) (by decide) (law_c13 X hl hX hbl hbA h1 h2 h3 h4 hk hn h kk)
    | 14, _, hv => exact g_tabIn X (offq := 924) (tgt := 968) dL_law_44 (by omega) (by omega) (by rw [hv]; rfl) (by decide) (law_c14 X hl hX hbl hbA h1 h2 h3 h4 hk hn h kk)
    | 15, _, hv => exact g_tabIn X (offq := 980) (tgt := 1024) dL_law_44 (by omega) (by omega) (by rw [hv]; rfl) (by decide) (law_c15 X hl hX hbl hbA h1 h2 h3 h4 hk hn h kk)
    | 16, _, hv => exact g_tabIn X (offq := 1060) (tgt := 1104) dL_law_44 (by omega) (by omega) (by rw [hv]; rfl) (by decide) (law_c16 X hl hX hbl hbA h1 h2 h3 h4 hk hn h kk)
    | 17, _, hv => exact g_tabIn X (offq := 1128) (tgt := 1172) dL_law_44 (by omega) (by omega) (by rw [hv]; rfl) (by decide) (law_c17 X hl hX hbl hbA h1 h2 h3 h4 hk hn h kk)
    | 18, _, hv => exact g_tabIn X (offq := 1184) (tgt := 1228) dL_law_44 (by omega) (by omega) (by rw [hv]; rfl) (by decide) (law_c18 X hl hX hbl hbA h1 h2 h3 h4 hk hn h kk)
    | 19, _, hv => exact g_tabIn X (offq := 1240) (tgt := 1284) dL_law_44 (by omega) (by omega) (by rw [hv]; rfl) (by decide) (law_c19 X hl hX hbl hbA h1 h2 h3 h4 hk hn h kk)
    | 20, _, hv => exact g_tabIn X (offq := 1296) (tgt := 1340) dL_law_44 (by omega) (by omega) (by rw [hv]; rfl) (by decide) (law_c20 X hl hX hbl hbA h1 h2 h3 h4 hk hn h kk)
    | 21, _, hv => exact g_tabIn X (offq := 1352) (tgt := 1396) dL_law_44 (by omega) (by omega) (by rw [hv]; rfl) (by decide) (law_c21 X hl hX hbl hbA h1 h2 h3 h4 hk hn h kk)
    | 22, _, hv => exact g_tabIn X (offq := 1408) (tgt := 1452) dL_law_44 (by omega) (by omega) (by rw [hv]; rfl) (by decide) (law_c22 X hl hX hbl hbA h1 h2 h3 h4 hk hn h kk)
    | 23, _, hv => exact g_tabIn X (offq := 1488) (tgt := 1532) dL_law_44 (by omega) (by omega) (by rw [hv]; rfl) (by decide) (law_c23 X hl hX hbl hbA h1 h2 h3 h4 hk hn h kk)
    | 24, _, hv => exact g_tabIn X (offq := 1556) (tgt := 1600) dL_law_44 (by omega) (by omega) (by rw [hv]; rfl) (by decide) (law_c24 X hl hX hbl hbA h1 h2 h3 h4 hk hn h kk)
    | 25, _, hv => exact g_tabIn X (offq := 1624) (tgt := 1668) dL_law_44 (by omega) (by omega) (by rw [hv]; rfl) (by decide) (law_c25 X hl hX hbl hbA h1 h2 h3 h4 hk hn h kk)
    | 26, _, hv => exact g_tabIn X (offq := 1687) (tgt := 1731) dL_law_44 (by omega) (by omega) (by rw [hv]; rfl) (by decide) (law_c26 X hl hX hbl hbA h1 h2 h3 h4 hk hn h kk)
    | 27, _, hv => exact g_tabIn X (offq := 1743) (tgt := 1787) dL_law_44 (by omega) (by omega) (by rw [hv]; rfl) (by decide) (law_c27 X hl hX hbl hbA h1 h2 h3 h4 hk hn h kk)
    | 28, _, hv => exact g_tabIn X (offq := 1799) (tgt := 1843) dL_law_44 (by omega) (by omega) (by rw [hv]; rfl) (by decide) (law_c28 X hl hX hbl hbA h1 h2 h3 h4 hk hn h kk)
    | 29, _, hv => exact g_tabIn X (offq := 1855) (tgt := 1899) dL_law_44 (by omega) (by omega) (by rw [hv]; rfl) (by decide) (law_c29 X hl hX hbl hbA h1 h2 h3 h4 hk hn h kk)
    | 30, _, hv => exact g_tabIn X (offq := 1911) (tgt := 1955) dL_law_44 (by omega) (by omega) (by rw [hv]; rfl) (by decide) (law_c30 X hl hX hbl hbA h1 h2 h3 h4 hk hn h kk)
    | 31, _, hv => exact g_tabIn X (offq := 1966) (tgt := 2010) dL_law_44 (by omega) (by omega) (by rw [hv]; rfl) (by decide) (law_c31 X hl hX hbl hbA h1 h2 h3 h4 hk hn h kk)
    | 32, _, hv => exact g_tabIn X (offq := 2034) (tgt := 2078) dL_law_44 (by omega) (by omega) (by rw [hv]; rfl) (by decide) (law_c32 X hl hX hbl hbA h1 h2 h3 h4 hk hn h kk)
    | 33, _, hv => exact g_tabIn X (offq := 2090) (tgt := 2134) dL_law_44 (by omega) (by omega) (by rw [hv]; rfl) (by decide) (law_c33 X hl hX hbl hbA h1 h2 h3 h4 hk hn h kk)
    | 34, _, hv => exact g_tabIn X (offq := 2167) (tgt := 2211) dL_law_44 (by omega) (by omega) (by rw [hv]; rfl) (by decide) (law_c34 X hl hX hbl hbA h1 h2 h3 h4 hk hn h kk)
    | 35, _, hv => exact g_tabIn X (offq := 2245) (tgt := 2289) dL_law_44 (by omega) (by omega) (by rw [hv]; rfl) (by decide) (law_c35 X hl hX hbl hbA h1 h2 h3 h4 hk hn h kk)
    | z + 36, hz, _ => exact absurd hz (by omega)
set_option maxHeartbeats 8000000 in
set_option maxRecDepth 100000 in
theorem law_L (X : gC (ZL aK aO aS aV aT) p s m args meth c D (cyT cy) A0 cL_law wzL_law RL 9 ret) (hl : l.stackTraces = false) (hX : va_X b L xs s s.heap) (hbl : b < s.heap.size) (hbA : ¬ A0 b) (hL : L ≤ 2560) (hret : ∀ (ws : va_W) (k n : Nat) (lv : List (Nat × Value)), k ≤ 601024 → n ≤ 7293034 → gG p l e room_1 s m args below meth c D (cyT cy) A0 9 Q ws k n 2308 lv []) : ∀ (d j : Nat) (a : AS) (σ τ : St) (fo : Nat → Int64) (fd : Nat → UInt64), 513 - j = d → j ≤ 512 → REL a σ τ → gG p l e room_1 s m args below meth c D (cyT cy) A0 9 Q (LW cy Ac aK Am qo qd σ τ fo fd) (105 + 4 * j) (110524 + 24 * j) 28 [(0, .ref b), (1, .ref (Ac 0)), (2, .ref (Am 0)), (3, .ref qo), (4, .ref qd), (5, .int (nI (5 * j)))] [] := by
  intro d
  induction d with
  | zero => exact fun j a σ τ fo fd hd hj _ => absurd hd (by omega)
  | succ d ih =>
    intro j a σ τ fo fd hd hj h
    refine g_iload X dL_law_28 5 rfl ?_
    refine g_aload_n X dL_law_30 rfl 0 rfl ?_
    refine g_sclen X hX hbl hbA dL_law_31 ?_
    refine g_iconst X dL_law_32 (v := (5 : Int32)) (by decide) ?_
    refine g_isub X dL_law_33 ?_
    refine g_icmp_gt X (tgt := 2308) dL_law_34 (by decide) (fun _ => hret _ _ _ _ (by omega) (by omega)) (fun hle => ?_)
    have hlt : 5 * j + 5 ≤ L := by
      by_cases h5 : 5 ≤ L
      · rw [show Int32.ofNat L - (5 : Int32) = nI (L - 5) from nq_sub h5, nq_lt (by omega) (by omega)] at hle
        omega
      · refine absurd ?_ hle
        rw [Int32.lt_iff_toInt_lt, end_key L (by omega), nq_toInt (by omega)]
        omega
    refine g_aload_n X dL_law_37 rfl 0 rfl ?_
    refine g_iload X dL_law_38 5 rfl ?_
    refine g_scld X hX hbl hbA (vp_in_nI (by omega) (by omega)) dL_law_40 ?_
    refine g_bipush X dL_law_41 (v := (63 : Int32)) (by decide) ?_
    refine g_iand X dL_law_43 ?_
    have hp : ∀ z : Nat, 1 ≤ z → z < 5 → vp_in (nI (5 * j) + nI z) L := fun z h1 h2 => by
      rw [nq_add]
      exact vp_in_nI (by omega) (by omega)
    refine law_sw X hl hX hbl hbA hL (hp 1 (by decide) (by decide)) (hp 2 (by decide) (by decide)) (hp 3 (by decide) (by decide)) (hp 4 (by decide) (by decide)) (show 105 + 4 * j + 4 ≤ 601024 by omega) (show 110524 + 24 * j + 24 ≤ 7293034 by omega) h _ (fun σ' τ' a' fo' fd' hR => ?_)
    refine g_iinc X dL_law_2302 5 rfl (v := nI (5 * j + 5)) (by rw [show Int32.ofInt 5 = nI 5 by decide]; exact nq_add (5 * j) 5) (by decide) (lv' := [(5, .int (nI (5 * j + 5))), (0, .ref b), (1, .ref (Ac 0)), (2, .ref (Am 0)), (3, .ref qo), (4, .ref qd)]) rfl ?_
    refine g_goto X (tgt := 28) dL_law_2305 (by decide) ?_
    refine g_sub [1, 2, 3, 4, 5, 0] (lv' := [(0, .ref b), (1, .ref (Ac 0)), (2, .ref (Am 0)), (3, .ref qo), (4, .ref qd), (5, .int (nI (5 * j + 5)))]) rfl ?_
    have h9 := ih (j + 1) a' σ' τ' fo' fd' (by omega) (by omega) hR
    rw [show 5 * (j + 1) = 5 * j + 5 by omega] at h9
    exact g_wid (by omega) (by omega) h9
end LL
