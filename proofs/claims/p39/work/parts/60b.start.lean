theorem whole_start {p : Program} {e : Env} {s : State} {m : MethodId} {below : List Frame} {meth : Method} {c : Code} (l : Launch) (hflags : l.flags = flags0) {b L : Nat} {xs : Nat → Int32} (hL : L ≤ 260) (C0 : lw_At p s m meth c b L xs) : W p l e room_1 s m #[Value.ref b] below meth c s.heap [] 0 0 (lw_Z below #[Value.ref b] s) (entryFrame m ([Value.ref b] : List Value).toArray 6) := by
  obtain ⟨hx, hb, hr, hml, hown, hts, hX, hbl, hlocks, hgv⟩ := C0
  have ht : ∀ w ∈ tables_1, w.before #[Value.ref b] s = true := fun w hw => hts w (List.mem_append_right _ hw)
  obtain ⟨aK, aO, aS, aV, aT, bS, bV, dA, hZ⟩ := st_ZI (A := fun q => s.heap.size ≤ q) ht (flat_of_before _ hgv) (fun a h1 h2 => absurd h1 (Nat.not_lt.mpr h2))
  obtain ⟨D, cy, hK⟩ := st_K ht
  have X : gC (ZI aK aO aS aV aT bS bV dA) p s m #[Value.ref b] meth c D (cyT cy) (fun q => s.heap.size ≤ q) cL_law wzL_law RL 6 ret := ⟨⟨hx, hb, hml, hown, fun w hw => lwx_ok hts w (wzL_law_in w hw)⟩, hK, fun q h => h, hZ, hr, hlocks⟩
  have hl : l.stackTraces = false := by
    unfold Launch.stackTraces
    rw [hflags]
    decide
  have K := law_body (Q := lw_Z below #[Value.ref b] s) (l := l) (e := e) (below := below) X ht (va_AOA.of (ht _ (by decide +kernel))) hl hX hbl (Nat.not_le.mpr hbl) hL (fun ws k n lv hk hn => (fun H locs ls hP hD hS hl0 => va_forget (fun q hq => hS.2.2 q hq) (W.widen hk hn (lw_ret hx hb hr hlocks dL_law_102)))) s.heap [] _ (fun k q h => nomatch h) ⟨(fun _ _ _ _ h => nomatch h), (fun _ _ h => nomatch h)⟩ va_S.rf (lv_entry [Value.ref b] (n := 6) (Nat.le_of_ble_eq_true rfl))
  rw [← lg_entry_eq] at K
  exact K
