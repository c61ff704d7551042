/-! Enum.ordinal, String.length and String.charAt over the class's own constants -/
section JJq
variable {p : Program} {l : Launch} {e : Env} {R : Room} {s : State} {m : MethodId} {args : Array Value} {below : List Frame} {meth : Method} {c : Code} {D : va_G} {tys : List (ClassId × FieldType)} {A : Nat → Prop} {nL : Nat} {Q : State → Prop} {cc : ByteArray} {Ts : List Cond} {own : String} {ret : Option FieldType}
variable {k n pc : Nat} {lv : List (Nat × Value)} {st : List Value} {ws : va_W} {aK aO aS aV aT : Nat → Nat} {index : Nat}
theorem g_ishr {ZZ : (Nat → Prop) → State → Heap → Prop} (X : gC ZZ p s m args meth c D tys A cc Ts own nL ret) {x y : Int32} (hdg : decode cc pc = .ok (.ishr, 1)) (kk : gG p l e R s m args below meth c D tys A nL Q ws k n (pc + 1) lv (.int (x >>> (y &&& 31)) :: st)) : gG p l e R s m args below meth c D tys A nL Q ws k n pc lv (.int y :: .int x :: st) := fun H locs ls hP hD hSs hl0 => lv_ishr X.1.1 X.1.2.1 hdg (kk H locs ls hP hD hSs hl0)
theorem g_i2c {ZZ : (Nat → Prop) → State → Heap → Prop} (X : gC ZZ p s m args meth c D tys A cc Ts own nL ret) {x v : Int32} (hdg : decode cc pc = .ok (.i2c, 1)) (hv : (x.toUInt32 % 65536).toInt32 = v) (kk : gG p l e R s m args below meth c D tys A nL Q ws k n (pc + 1) lv (.int v :: st)) : gG p l e R s m args below meth c D tys A nL Q ws k n pc lv (.int x :: st) := fun H locs ls hP hD hSs hl0 => lv_i2c X.1.1 X.1.2.1 hdg hv (kk H locs ls hP hD hSs hl0)
theorem g_kOrd (X : gC (ZC aK aO aS aV aT) p s m args meth c D tys A cc Ts own nL ret) {i : Nat} (hi : i < 6) (hlink : Cond.fieldLink own index "java/lang/Enum" "ordinal" "I" ∈ Ts) (hdg : decode cc pc = .ok (.getfield index, 3)) (kk : gG p l e R s m args below meth c D tys A nL Q ws k n (pc + 3) lv (.int (kOrd i) :: st)) : gG p l e R s m args below meth c D tys A nL Q ws k n pc lv (.ref (aK i) :: st) := by
  intro H locs ls hP hD hSs hl0
  obtain ⟨z1, z2, z3, z4, z5, z6, z7, z8, z9, z10, z11, z12, zz13, zz14⟩ := X.2.2.2.1.2
  exact va_getE (q := ("java/lang/Enum", "ordinal", "I", [0, 1, 2, 3, 4, 5])) X.1.1 X.1.2.1 z3 hi hSs X.1.2.2.2.1 (by simp [zKf]) (X.1.2.2.2.2 _ hlink) (fun _ h9 => h9) hdg (kk H locs ls hP hD hSs hl0)
theorem g_oOrd (X : gC (ZC aK aO aS aV aT) p s m args meth c D tys A cc Ts own nL ret) {i : Nat} (hi : i < 4) (hlink : Cond.fieldLink own index "java/lang/Enum" "ordinal" "I" ∈ Ts) (hdg : decode cc pc = .ok (.getfield index, 3)) (kk : gG p l e R s m args below meth c D tys A nL Q ws k n (pc + 3) lv (.int (oOrd i) :: st)) : gG p l e R s m args below meth c D tys A nL Q ws k n pc lv (.ref (aO i) :: st) := by
  intro H locs ls hP hD hSs hl0
  obtain ⟨z1, z2, z3, z4, z5, z6, z7, z8, z9, z10, z11, z12, zz13, zz14⟩ := X.2.2.2.1.2
  exact va_getE (q := ("java/lang/Enum", "ordinal", "I", [0, 1, 2, 3])) X.1.1 X.1.2.1 z5 hi hSs X.1.2.2.2.1 (by simp [zOf]) (X.1.2.2.2.2 _ hlink) (fun _ h9 => h9) hdg (kk H locs ls hP hD hSs hl0)
theorem g_sCS (X : gC (ZC aK aO aS aV aT) p s m args meth c D tys A cc Ts own nL ret)  (hlink : Cond.fieldLink own index "java/lang/String" "COMPACT_STRINGS" "Z" ∈ Ts) (hdg : decode cc pc = .ok (.getstatic index, 3)) (kk : gG p l e R s m args below meth c D tys A nL Q ws k n (pc + 3) lv (.int 1 :: st)) : gG p l e R s m args below meth c D tys A nL Q ws k n pc lv st := by
  intro H locs ls hP hD hSs hl0
  obtain ⟨z1, z2, z3, z4, z5, z6, z7, z8, z9, z10, z11, z12, zz13, zz14⟩ := X.2.2.2.1.2
  exact va_gets X.1.1 X.1.2.1 zz13 hSs X.1.2.2.2.1 (X.1.2.2.2.2 _ hlink) (fun _ h9 => h9) hdg (kk H locs ls hP hD hSs hl0)
theorem g_sCod (X : gC (ZC aK aO aS aV aT) p s m args meth c D tys A cc Ts own nL ret) {i : Nat} (hi : i < 9) (hlink : Cond.fieldLink own index "java/lang/String" "coder" "B" ∈ Ts) (hdg : decode cc pc = .ok (.getfield index, 3)) (kk : gG p l e R s m args below meth c D tys A nL Q ws k n (pc + 3) lv (.int 0 :: st)) : gG p l e R s m args below meth c D tys A nL Q ws k n pc lv (.ref (aS i) :: st) := by
  intro H locs ls hP hD hSs hl0
  obtain ⟨z1, z2, z3, z4, z5, z6, z7, z8, z9, z10, z11, z12, zz13, zz14⟩ := X.2.2.2.1.2
  exact vk_getf X.1.1 X.1.2.1 (z12.1 i hi).2.1 hSs X.1.2.2.2.1 (X.1.2.2.2.2 _ hlink) (fun _ h9 => h9) hdg (kk H locs ls hP hD hSs hl0)
theorem g_sVal (X : gC (ZC aK aO aS aV aT) p s m args meth c D tys A cc Ts own nL ret) {i : Nat} (hi : i < 9) (hlink : Cond.fieldLink own index "java/lang/String" "value" "[B" ∈ Ts) (hdg : decode cc pc = .ok (.getfield index, 3)) (kk : gG p l e R s m args below meth c D tys A nL Q ws k n (pc + 3) lv (.ref (aV i) :: st)) : gG p l e R s m args below meth c D tys A nL Q ws k n pc lv (.ref (aS i) :: st) := by
  intro H locs ls hP hD hSs hl0
  obtain ⟨z1, z2, z3, z4, z5, z6, z7, z8, z9, z10, z11, z12, zz13, zz14⟩ := X.2.2.2.1.2
  exact vk_getf X.1.1 X.1.2.1 (z12.1 i hi).2.2.1 hSs X.1.2.2.2.1 (X.1.2.2.2.2 _ hlink) (fun _ h9 => h9) hdg (kk H locs ls hP hD hSs hl0)
theorem g_sAl (X : gC (ZC aK aO aS aV aT) p s m args meth c D tys A cc Ts own nL ret) {i : Nat} (hi : i < 9) (hdg : decode cc pc = .ok (.arraylength, 1)) (kk : gG p l e R s m args below meth c D tys A nL Q ws k n (pc + 1) lv (.int (sLen i) :: st)) : gG p l e R s m args below meth c D tys A nL Q ws k n pc lv (.ref (aV i) :: st) := by
  intro H locs ls hP hD hSs hl0
  obtain ⟨z1, z2, z3, z4, z5, z6, z7, z8, z9, z10, z11, z12, zz13, zz14⟩ := X.2.2.2.1.2
  exact va_tlen X.1.1 X.1.2.1 (z12.1 i hi).2.2.2 hSs rfl hdg (kk H locs ls hP hD hSs hl0)
theorem g_sBa (X : gC (ZC aK aO aS aV aT) p s m args meth c D tys A cc Ts own nL ret) {i : Nat} {q : Int32} (hi : i < 9) (hin : ¬ (q < 0 ∨ zSl.getD i 0 ≤ q.toNatClampNeg)) (hdg : decode cc pc = .ok (.baload, 1)) (kk : gG p l e R s m args below meth c D tys A nL Q ws k n (pc + 1) lv (.int (sCh i q) :: st)) : gG p l e R s m args below meth c D tys A nL Q ws k n pc lv (.int q :: .ref (aV i) :: st) := by
  intro H locs ls hP hD hSs hl0
  obtain ⟨z1, z2, z3, z4, z5, z6, z7, z8, z9, z10, z11, z12, zz13, zz14⟩ := X.2.2.2.1.2
  exact va_tb X.1.1 X.1.2.1 (z12.1 i hi).2.2.2 hSs hin rfl hdg (kk H locs ls hP hD hSs hl0)
theorem g_sFmt (X : gC (ZC aK aO aS aV aT) p s m args meth c D tys A cc Ts own nL ret) (hlink : Cond.fieldLink own index "jdk/internal/util/Preconditions" "SIOOBE_FORMATTER" "Ljava/util/function/BiFunction;" ∈ Ts) (hdg : decode cc pc = .ok (.getstatic index, 3)) (kk : ∀ r : Option Nat, gG p l e R s m args below meth c D tys A nL Q ws k n (pc + 3) lv (va_rf r :: st)) : gG p l e R s m args below meth c D tys A nL Q ws k n pc lv st := by
  intro H locs ls hP hD hSs hl0
  rcases X.2.2.2.1.2.2.2.2.2.2.2.2.2.2.2.2.2.2 with hz | ⟨t, hz⟩
  · exact va_gets X.1.1 X.1.2.1 hz hSs X.1.2.2.2.1 (X.1.2.2.2.2 _ hlink) (fun _ h9 => h9) hdg (kk none H locs ls hP hD hSs hl0)
  · exact va_gets X.1.1 X.1.2.1 hz hSs X.1.2.2.2.1 (X.1.2.2.2.2 _ hlink) (fun _ h9 => h9) hdg (kk (some t) H locs ls hP hD hSs hl0)
end JJq
section JMq
variable {l : Launch} {D : va_G} {tys : List (ClassId × FieldType)} {aK aO aS aV aT : Nat → Nat} {S : Type} {Wf : S → va_W} {σ : S}
abbrev rmJ (f lo : Nat) : Room := { frames := f, cells := 0, slots := 0, locals := lo }
set_option maxRecDepth 100000 in
theorem m_ordK {i : Nat} (hi : i < 6) : mI (ZC aK aO aS aV aT) D tys l yJx29ce0_ordinal_8abf5 wsJx29ce0_ordinal_8abf5 (rmJ 0 0) Wf [.ref (aK i)] σ (kOrd i) σ := by
  refine mI_of (cc := cJx29ce0_ordinal_8abf5) (maxL := 1) (ret := (some .int)) (by decide) rfl (Nat.le_of_ble_eq_true rfl) (fun p e s m args below meth c B X => ?_)
  have lk : Cond.fieldLink RJx29ce0 7 "java/lang/Enum" "ordinal" "I" ∈ wsJx29ce0_ordinal_8abf5 := by decide +kernel
  have K0 : gG p l e (rmJ 0 0) s m args below meth c D tys B 1 (eI D tys Wf B below args s (kOrd i) σ) (Wf σ) 0 0 0 [(0, .ref (aK i))] [] := by
    refine g_aload_n X dJx29ce0_ordinal_8abf5_0 rfl 0 rfl ?_
    refine g_kOrd X hi lk dJx29ce0_ordinal_8abf5_1 ?_
    exact g_iret (Wf := Wf) X ⟨rfl, rfl⟩ dJx29ce0_ordinal_8abf5_4
  exact K0
set_option maxRecDepth 100000 in
theorem m_ordO {i : Nat} (hi : i < 4) : mI (ZC aK aO aS aV aT) D tys l yJx29ce0_ordinal_8abf5 wsJx29ce0_ordinal_8abf5 (rmJ 0 0) Wf [.ref (aO i)] σ (oOrd i) σ := by
  refine mI_of (cc := cJx29ce0_ordinal_8abf5) (maxL := 1) (ret := (some .int)) (by decide) rfl (Nat.le_of_ble_eq_true rfl) (fun p e s m args below meth c B X => ?_)
  have lk : Cond.fieldLink RJx29ce0 7 "java/lang/Enum" "ordinal" "I" ∈ wsJx29ce0_ordinal_8abf5 := by decide +kernel
  have K0 : gG p l e (rmJ 0 0) s m args below meth c D tys B 1 (eI D tys Wf B below args s (oOrd i) σ) (Wf σ) 0 0 0 [(0, .ref (aO i))] [] := by
    refine g_aload_n X dJx29ce0_ordinal_8abf5_0 rfl 0 rfl ?_
    refine g_oOrd X hi lk dJx29ce0_ordinal_8abf5_1 ?_
    exact g_iret (Wf := Wf) X ⟨rfl, rfl⟩ dJx29ce0_ordinal_8abf5_4
  exact K0
set_option maxRecDepth 100000 in
theorem m_coder {i : Nat} (hi : i < 9) : mI (ZC aK aO aS aV aT) D tys l yJ0_coder_7d493 wsJ0_coder_7d493 (rmJ 0 0) Wf [.ref (aS i)] σ (0) σ := by
  refine mI_of (cc := cJ0_coder_7d493) (maxL := 1) (ret := (some .byte)) (by decide) rfl (Nat.le_of_ble_eq_true rfl) (fun p e s m args below meth c B X => ?_)
  have lk : Cond.fieldLink RJ0 38 "java/lang/String" "COMPACT_STRINGS" "Z" ∈ wsJ0_coder_7d493 := by decide +kernel
  have lk2 : Cond.fieldLink RJ0 15 "java/lang/String" "coder" "B" ∈ wsJ0_coder_7d493 := by decide +kernel
  have K0 : gG p l e (rmJ 0 0) s m args below meth c D tys B 1 (eI D tys Wf B below args s (0) σ) (Wf σ) 0 0 0 [(0, .ref (aS i))] [] := by
    refine g_sCS X lk dJ0_coder_7d493_0 ?_
    refine g_if_eq X (tgt := 13) dJ0_coder_7d493_3 (by decide) (fun h => absurd h (by decide)) (fun _ => ?_)
    refine g_aload_n X dJ0_coder_7d493_6 rfl 0 rfl ?_
    refine g_sCod X hi lk2 dJ0_coder_7d493_7 ?_
    refine g_goto X (tgt := 14) dJ0_coder_7d493_10 (by decide) ?_
    exact g_zret (Wf := Wf) X rfl ⟨rfl, rfl⟩ dJ0_coder_7d493_14
  exact K0
set_option maxRecDepth 100000 in
theorem m_isLatin1 {i : Nat} (hi : i < 9) : mI (ZC aK aO aS aV aT) D tys l yJ0_isLatin1_aae02 wsJ0_isLatin1_aae02 (rmJ 0 0) Wf [.ref (aS i)] σ (1) σ := by
  refine mI_of (cc := cJ0_isLatin1_aae02) (maxL := 1) (ret := (some .boolean)) (by decide) rfl (Nat.le_of_ble_eq_true rfl) (fun p e s m args below meth c B X => ?_)
  have lk : Cond.fieldLink RJ0 38 "java/lang/String" "COMPACT_STRINGS" "Z" ∈ wsJ0_isLatin1_aae02 := by decide +kernel
  have lk2 : Cond.fieldLink RJ0 15 "java/lang/String" "coder" "B" ∈ wsJ0_isLatin1_aae02 := by decide +kernel
  have K0 : gG p l e (rmJ 0 0) s m args below meth c D tys B 1 (eI D tys Wf B below args s (1) σ) (Wf σ) 0 0 0 [(0, .ref (aS i))] [] := by
    refine g_sCS X lk dJ0_isLatin1_aae02_0 ?_
    refine g_if_eq X (tgt := 17) dJ0_isLatin1_aae02_3 (by decide) (fun h => absurd h (by decide)) (fun _ => ?_)
    refine g_aload_n X dJ0_isLatin1_aae02_6 rfl 0 rfl ?_
    refine g_sCod X hi lk2 dJ0_isLatin1_aae02_7 ?_
    refine g_if_ne X (tgt := 17) dJ0_isLatin1_aae02_10 (by decide) (fun h => absurd rfl h) (fun _ => ?_)
    refine g_iconst X dJ0_isLatin1_aae02_13 (v := 1) (by decide) ?_
    refine g_goto X (tgt := 18) dJ0_isLatin1_aae02_14 (by decide) ?_
    exact g_zret (Wf := Wf) X rfl ⟨rfl, rfl⟩ dJ0_isLatin1_aae02_18
  exact K0
set_option maxRecDepth 100000 in
theorem m_slen {i : Nat} (hi : i < 9) : mI (ZC aK aO aS aV aT) D tys l yJ0_length_8abf5 wsJ0_length_8abf5 (rmJ 1 20) Wf [.ref (aS i)] σ (sLen i) σ := by
  refine mI_of (cc := cJ0_length_8abf5) (maxL := 1) (ret := (some .int)) (by decide) rfl (Nat.le_of_ble_eq_true rfl) (fun p e s m args below meth c B X => ?_)
  have lk : Cond.fieldLink RJ0 9 "java/lang/String" "value" "[B" ∈ wsJ0_length_8abf5 := by decide +kernel
  have K0 : gG p l e (rmJ 1 20) s m args below meth c D tys B 1 (eI D tys Wf B below args s (sLen i) σ) (Wf σ) 0 0 0 [(0, .ref (aS i))] [] := by
    refine g_aload_n X dJ0_length_8abf5_0 rfl 0 rfl ?_
    refine g_sVal X hi lk dJ0_length_8abf5_1 ?_
    refine g_sAl X hi dJ0_length_8abf5_4 ?_
    refine g_aload_n X dJ0_length_8abf5_5 rfl 0 rfl ?_
    refine g_afterI (Wf := Wf) (σ := σ) (σ' := σ) (st := [.int (sLen i)]) (r := 0) (a9 := (Value.ref (aS i) :: ([] : List Value)).toArray) X (fun H locs ls hP hD hSs hl0 => ?_) ?_
    · exact va_runV (As := []) X.1 ((m_coder hi) H.size) (cwV 0 X.1.2.2.2.2 gJ0_length_8abf5_J0_coder_7d493 rfl rfl rfl (by decide +kernel) ⟨Nat.le_of_ble_eq_true rfl, Nat.le_of_ble_eq_true rfl⟩) ⟨gPre_blind (ZC_ok _ _ _ _ _), vk_recv X.2.2.2.1.2.2.2.2.2.2.2.2.2.2.2.2.1 hi hSs, (gPre_of (ZC_ok _ _ _ _ _) X.2.1 X.2.2.1 X.2.2.2.1 hP hD hSs).2⟩ rfl rfl hl0.1 rfl (lv_room (Nat.le_of_ble_eq_true rfl)) dJ0_length_8abf5_6 ⟨by decide, by decide⟩
    refine g_ishr X dJ0_length_8abf5_9 ?_
    rw [sb_shr0]
    exact g_iret (Wf := Wf) X ⟨rfl, rfl⟩ dJ0_length_8abf5_10
  exact K0
set_option maxRecDepth 100000 in
theorem m_pchk {a b : Int32} (h0 : ¬ a < 0) (h1 : a < b) (r : Option Nat) : mI (ZC aK aO aS aV aT) D tys l yJ3_checkIndex_8e157 wsJ3_checkIndex_8e157 (rmJ 0 0) Wf [.int a, .int b, va_rf r] σ (a) σ := by
  obtain ⟨v, hv, hvc⟩ : ∃ v, va_rf r = v ∧ (v = .null ∨ ∃ t, v = .ref t) := by cases r; exact ⟨_, rfl, Or.inl rfl⟩; exact ⟨_, rfl, Or.inr ⟨_, rfl⟩⟩
  rw [hv]
  rcases hvc with rfl | ⟨t, rfl⟩
  · refine mI_of (cc := cJ3_checkIndex_8e157) (maxL := 3) (ret := (some .int)) (by decide) rfl (Nat.le_of_ble_eq_true rfl) (fun p e s m args below meth c B X => ?_)

    have K0 : gG p l e (rmJ 0 0) s m args below meth c D tys B 3 (eI D tys Wf B below args s (a) σ) (Wf σ) 0 0 0 [(0, .int a), (1, .int b), (2, .null)] [] := by
      refine g_iload_n X dJ3_checkIndex_8e157_0 rfl 0 rfl ?_
      refine g_if_lt X (tgt := 9) dJ3_checkIndex_8e157_1 (by decide) (fun h => absurd h h0) (fun _ => ?_)
      refine g_iload_n X dJ3_checkIndex_8e157_4 rfl 0 rfl ?_
      refine g_iload_n X dJ3_checkIndex_8e157_5 rfl 1 rfl ?_
      refine g_icmp_lt X (tgt := 16) dJ3_checkIndex_8e157_6 (by decide) (fun _ => ?_) (fun h => absurd h1 h)
      refine g_iload_n X dJ3_checkIndex_8e157_16 rfl 0 rfl ?_
      exact g_iret (Wf := Wf) X ⟨rfl, rfl⟩ dJ3_checkIndex_8e157_17
    exact K0
  · refine mI_of (cc := cJ3_checkIndex_8e157) (maxL := 3) (ret := (some .int)) (by decide) rfl (Nat.le_of_ble_eq_true rfl) (fun p e s m args below meth c B X => ?_)

    have K0 : gG p l e (rmJ 0 0) s m args below meth c D tys B 3 (eI D tys Wf B below args s (a) σ) (Wf σ) 0 0 0 [(0, .int a), (1, .int b), (2, .ref t)] [] := by
      refine g_iload_n X dJ3_checkIndex_8e157_0 rfl 0 rfl ?_
      refine g_if_lt X (tgt := 9) dJ3_checkIndex_8e157_1 (by decide) (fun h => absurd h h0) (fun _ => ?_)
      refine g_iload_n X dJ3_checkIndex_8e157_4 rfl 0 rfl ?_
      refine g_iload_n X dJ3_checkIndex_8e157_5 rfl 1 rfl ?_
      refine g_icmp_lt X (tgt := 16) dJ3_checkIndex_8e157_6 (by decide) (fun _ => ?_) (fun h => absurd h1 h)
      refine g_iload_n X dJ3_checkIndex_8e157_16 rfl 0 rfl ?_
      exact g_iret (Wf := Wf) X ⟨rfl, rfl⟩ dJ3_checkIndex_8e157_17
    exact K0
set_option maxRecDepth 100000 in
theorem m_schk {a b : Int32} (h0 : ¬ a < 0) (h1 : a < b) : mV (ZC aK aO aS aV aT) D tys l yJ0_checkIndex_df160 wsJ0_checkIndex_df160 (rmJ 1 22) Wf [.int a, .int b] σ σ := by
  refine mV_of (cc := cJ0_checkIndex_df160) (maxL := 2) (ret := none) (by decide) rfl (Nat.le_of_ble_eq_true rfl) (fun p e s m args below meth c B X => ?_)
  have lk : Cond.fieldLink RJ0 1053 "jdk/internal/util/Preconditions" "SIOOBE_FORMATTER" "Ljava/util/function/BiFunction;" ∈ wsJ0_checkIndex_df160 := by decide +kernel
  have K0 : gG p l e (rmJ 1 22) s m args below meth c D tys B 2 (eV D tys Wf B below args s σ) (Wf σ) 0 0 0 [(0, .int a), (1, .int b)] [] := by
    refine g_iload_n X dJ0_checkIndex_df160_0 rfl 0 rfl ?_
    refine g_iload_n X dJ0_checkIndex_df160_1 rfl 1 rfl ?_
    refine g_sFmt X lk dJ0_checkIndex_df160_2 (fun r => ?_)
    refine g_afterI (Wf := Wf) (σ := σ) (σ' := σ) (st := []) (r := a) (a9 := ([.int a, .int b, va_rf r] : List Value).toArray) X (fun H locs ls hP hD hSs hl0 => ?_) ?_
    · exact va_runS (As := [.int a, .int b, va_rf r]) X.1 ((m_pchk h0 h1 r) H.size) (va_cwS 3 X.1.2.2.2.2 gJ0_checkIndex_df160_J3_checkIndex_8e157 rfl rfl rfl (by decide +kernel) ⟨Nat.le_of_ble_eq_true rfl, Nat.le_of_ble_eq_true rfl⟩) ⟨gPre_blind (ZC_ok _ _ _ _ _), (gPre_of (ZC_ok _ _ _ _ _) X.2.1 X.2.2.1 X.2.2.2.1 hP hD hSs).2⟩ rfl rfl hl0.1 rfl (lv_room (Nat.le_of_ble_eq_true rfl)) dJ0_checkIndex_df160_5 ⟨by decide, by decide⟩
    refine g_pop X dJ0_checkIndex_df160_8 rfl ?_
    exact g_vret (Wf := Wf) X rfl dJ0_checkIndex_df160_9
  exact K0
theorem sChTab : ∀ i, i < 9 → ∀ j, j < zSl.getD i 0 → (((zSb.getD i []).getD j 0 &&& 255).toUInt32 % 65536).toInt32 = (zSb.getD i []).getD j 0 ∧ narrow .char (.int ((zSb.getD i []).getD j 0)) = .int ((zSb.getD i []).getD j 0) := by
  intro i hi
  match i, hi with
  | 0, _ => intro j hj; match j, hj with | 0, _ => exact ⟨rfl, rfl⟩ | 1, _ => exact ⟨rfl, rfl⟩ | 2, _ => exact ⟨rfl, rfl⟩ | 3, _ => exact ⟨rfl, rfl⟩ | j + 4, hj => exact absurd hj (by simp [zSl])
  | 1, _ => intro j hj; match j, hj with | 0, _ => exact ⟨rfl, rfl⟩ | 1, _ => exact ⟨rfl, rfl⟩ | 2, _ => exact ⟨rfl, rfl⟩ | 3, _ => exact ⟨rfl, rfl⟩ | j + 4, hj => exact absurd hj (by simp [zSl])
  | 2, _ => intro j hj; match j, hj with | 0, _ => exact ⟨rfl, rfl⟩ | 1, _ => exact ⟨rfl, rfl⟩ | 2, _ => exact ⟨rfl, rfl⟩ | 3, _ => exact ⟨rfl, rfl⟩ | j + 4, hj => exact absurd hj (by simp [zSl])
  | 3, _ => intro j hj; match j, hj with | 0, _ => exact ⟨rfl, rfl⟩ | 1, _ => exact ⟨rfl, rfl⟩ | 2, _ => exact ⟨rfl, rfl⟩ | 3, _ => exact ⟨rfl, rfl⟩ | j + 4, hj => exact absurd hj (by simp [zSl])
  | 4, _ => intro j hj; match j, hj with | 0, _ => exact ⟨rfl, rfl⟩ | 1, _ => exact ⟨rfl, rfl⟩ | 2, _ => exact ⟨rfl, rfl⟩ | 3, _ => exact ⟨rfl, rfl⟩ | j + 4, hj => exact absurd hj (by simp [zSl])
  | 5, _ => intro j hj; match j, hj with | 0, _ => exact ⟨rfl, rfl⟩ | 1, _ => exact ⟨rfl, rfl⟩ | 2, _ => exact ⟨rfl, rfl⟩ | 3, _ => exact ⟨rfl, rfl⟩ | 4, _ => exact ⟨rfl, rfl⟩ | j + 5, hj => exact absurd hj (by simp [zSl])
  | 6, _ => intro j hj; match j, hj with | 0, _ => exact ⟨rfl, rfl⟩ | j + 1, hj => exact absurd hj (by simp [zSl])
  | 7, _ => intro j hj; match j, hj with | 0, _ => exact ⟨rfl, rfl⟩ | j + 1, hj => exact absurd hj (by simp [zSl])
  | 8, _ => intro j hj; match j, hj with | 0, _ => exact ⟨rfl, rfl⟩ | 1, _ => exact ⟨rfl, rfl⟩ | 2, _ => exact ⟨rfl, rfl⟩ | j + 3, hj => exact absurd hj (by simp [zSl])
theorem sLt {i : Nat} (hi : i < 9) {q : Int32} (h : ¬ (q < 0 ∨ zSl.getD i 0 ≤ q.toNatClampNeg)) : ¬ q < 0 ∧ q < sLen i ∧ q.toNatClampNeg < zSl.getD i 0 := by
  have h0 : ¬ q < 0 := fun z => h (Or.inl z)
  have h1 : q.toNatClampNeg < zSl.getD i 0 := Nat.lt_of_not_le fun z => h (Or.inr z)
  obtain ⟨j, hj, rfl⟩ := nI_of h0
  rw [nI_clamp hj] at h1
  have h9 : zSl.getD i 0 ≤ 5 := by
    match i, hi with
    | 0, _ => decide
    | 1, _ => decide
    | 2, _ => decide
    | 3, _ => decide
    | 4, _ => decide
    | 5, _ => decide
    | 6, _ => decide
    | 7, _ => decide
    | 8, _ => decide
  exact ⟨h0, nI_lt h1 (by omega), by rw [nI_clamp hj]; exact h1⟩
set_option maxRecDepth 100000 in
theorem m_lch {i : Nat} (hi : i < 9) {q : Int32} (hin : ¬ (q < 0 ∨ zSl.getD i 0 ≤ q.toNatClampNeg)) : mI (ZC aK aO aS aV aT) D tys l yJ1_charAt_3b067 wsJ1_charAt_3b067 (rmJ 2 43) Wf [.ref (aV i), .int q] σ (sCh i q) σ := by
  refine mI_of (cc := cJ1_charAt_3b067) (maxL := 2) (ret := (some .char)) (by decide) rfl (Nat.le_of_ble_eq_true rfl) (fun p e s m args below meth c B X => ?_)

  have K0 : gG p l e (rmJ 2 43) s m args below meth c D tys B 2 (eI D tys Wf B below args s (sCh i q) σ) (Wf σ) 0 0 0 [(0, .ref (aV i)), (1, .int q)] [] := by
    obtain ⟨h0, h1, h2⟩ := sLt hi hin
    refine g_iload_n X dJ1_charAt_3b067_0 rfl 1 rfl ?_
    refine g_aload_n X dJ1_charAt_3b067_1 rfl 0 rfl ?_
    refine g_sAl X hi dJ1_charAt_3b067_2 ?_
    refine g_afterV (Wf := Wf) (σ := σ) (σ' := σ) (st := []) (a9 := ([.int q, .int (sLen i)] : List Value).toArray) X (fun H locs ls hP hD hSs hl0 => ?_) ?_
    · exact va_runS (As := [.int q, .int (sLen i)]) X.1 ((m_schk h0 h1) H.size) (va_cwS 2 X.1.2.2.2.2 gJ1_charAt_3b067_J0_checkIndex_df160 rfl rfl rfl (by decide +kernel) ⟨Nat.le_of_ble_eq_true rfl, Nat.le_of_ble_eq_true rfl⟩) ⟨gPre_blind (ZC_ok _ _ _ _ _), (gPre_of (ZC_ok _ _ _ _ _) X.2.1 X.2.2.1 X.2.2.2.1 hP hD hSs).2⟩ rfl rfl hl0.1 rfl (lv_room (Nat.le_of_ble_eq_true rfl)) dJ1_charAt_3b067_3 ⟨by decide, by decide⟩
    refine g_aload_n X dJ1_charAt_3b067_6 rfl 0 rfl ?_
    refine g_iload_n X dJ1_charAt_3b067_7 rfl 1 rfl ?_
    refine g_sBa X hi hin dJ1_charAt_3b067_8 ?_
    refine g_sipush X dJ1_charAt_3b067_9 (v := 255) (by decide) ?_
    refine g_iand X dJ1_charAt_3b067_12 ?_
    refine g_i2c X dJ1_charAt_3b067_13 (v := sCh i q) (sChTab i hi _ h2).1 ?_
    exact g_zret (Wf := Wf) X (sChTab i hi _ h2).2 ⟨rfl, rfl⟩ dJ1_charAt_3b067_14
  exact K0
set_option maxRecDepth 100000 in
theorem m_sch {i : Nat} (hi : i < 9) {q : Int32} (hin : ¬ (q < 0 ∨ zSl.getD i 0 ≤ q.toNatClampNeg)) : mI (ZC aK aO aS aV aT) D tys l yJ0_charAt_5068e wsJ0_charAt_5068e (rmJ 3 64) Wf [.ref (aS i), .int q] σ (sCh i q) σ := by
  refine mI_of (cc := cJ0_charAt_5068e) (maxL := 2) (ret := (some .char)) (by decide) rfl (Nat.le_of_ble_eq_true rfl) (fun p e s m args below meth c B X => ?_)
  have lk : Cond.fieldLink RJ0 9 "java/lang/String" "value" "[B" ∈ wsJ0_charAt_5068e := by decide +kernel
  have K0 : gG p l e (rmJ 3 64) s m args below meth c D tys B 2 (eI D tys Wf B below args s (sCh i q) σ) (Wf σ) 0 0 0 [(0, .ref (aS i)), (1, .int q)] [] := by
    obtain ⟨h0, h1, h2⟩ := sLt hi hin
    refine g_aload_n X dJ0_charAt_5068e_0 rfl 0 rfl ?_
    refine g_afterI (Wf := Wf) (σ := σ) (σ' := σ) (st := []) (r := 1) (a9 := (Value.ref (aS i) :: ([] : List Value)).toArray) X (fun H locs ls hP hD hSs hl0 => ?_) ?_
    · exact va_runV (As := []) X.1 ((m_isLatin1 hi) H.size) (cwV 0 X.1.2.2.2.2 gJ0_charAt_5068e_J0_isLatin1_aae02 rfl rfl rfl (by decide +kernel) ⟨Nat.le_of_ble_eq_true rfl, Nat.le_of_ble_eq_true rfl⟩) ⟨gPre_blind (ZC_ok _ _ _ _ _), vk_recv X.2.2.2.1.2.2.2.2.2.2.2.2.2.2.2.2.1 hi hSs, (gPre_of (ZC_ok _ _ _ _ _) X.2.1 X.2.2.1 X.2.2.2.1 hP hD hSs).2⟩ rfl rfl hl0.1 rfl (lv_room (Nat.le_of_ble_eq_true rfl)) dJ0_charAt_5068e_1 ⟨by decide, by decide⟩
    refine g_if_eq X (tgt := 16) dJ0_charAt_5068e_4 (by decide) (fun h => absurd h (by decide)) (fun _ => ?_)
    refine g_aload_n X dJ0_charAt_5068e_7 rfl 0 rfl ?_
    refine g_sVal X hi lk dJ0_charAt_5068e_8 ?_
    refine g_iload_n X dJ0_charAt_5068e_11 rfl 1 rfl ?_
    refine g_afterI (Wf := Wf) (σ := σ) (σ' := σ) (st := []) (r := sCh i q) (a9 := ([.ref (aV i), .int q] : List Value).toArray) X (fun H locs ls hP hD hSs hl0 => ?_) ?_
    · exact va_runS (As := [.ref (aV i), .int q]) X.1 ((m_lch hi hin) H.size) (va_cwS 2 X.1.2.2.2.2 gJ0_charAt_5068e_J1_charAt_3b067 rfl rfl rfl (by decide +kernel) ⟨Nat.le_of_ble_eq_true rfl, Nat.le_of_ble_eq_true rfl⟩) ⟨gPre_blind (ZC_ok _ _ _ _ _), (gPre_of (ZC_ok _ _ _ _ _) X.2.1 X.2.2.1 X.2.2.2.1 hP hD hSs).2⟩ rfl rfl hl0.1 rfl (lv_room (Nat.le_of_ble_eq_true rfl)) dJ0_charAt_5068e_12 ⟨by decide, by decide⟩
    exact g_zret (Wf := Wf) X (sChTab i hi _ h2).2 ⟨rfl, rfl⟩ dJ0_charAt_5068e_15
  exact K0
end JMq
section JCq
variable {p : Program} {l : Launch} {e : Env} {R : Room} {s : State} {m : MethodId} {args : Array Value} {below : List Frame} {meth : Method} {c : Code} {D : va_G} {tys : List (ClassId × FieldType)} {A : Nat → Prop} {nL : Nat} {Q : State → Prop} {cc : ByteArray} {Ts : List Cond} {own : String} {ret : Option FieldType}
variable {k n pc : Nat} {lv : List (Nat × Value)} {st : List Value} {ws : va_W} {aK aO aS aV aT : Nat → Nat} {index : Nat}
theorem g_ordK (X : gC (ZC aK aO aS aV aT) p s m args meth c D tys A cc Ts own nL ret) (hzz : gZ (ZC aK aO aS aV aT)) {i : Nat} (hi : i < 6) (hG : GoodIn Ts (va_wsU own index RX3 "java/lang/Enum" ⟨"Cardcabinet$Kind", "ordinal", "()I"⟩ yJx29ce0_ordinal_8abf5 wsJx29ce0_ordinal_8abf5)) (hR : 0 + 1 ≤ R.frames ∧ 8 + (1 + 11) + 0 ≤ R.locals) (hcat : (st.map fun v => v.category).sum ≤ 8) (hkn : k ≤ R.cells ∧ n ≤ R.slots) (hdg : decode cc pc = .ok (.invokevirtual index, 3)) (kk : gG p l e R s m args below meth c D tys A nL Q ws k n (pc + 3) lv (.int (kOrd i) :: st)) : gG p l e R s m args below meth c D tys A nL Q ws k n pc lv (.ref (aK i) :: st) := by
  refine g_afterI (Wf := fun _ : Unit => ws) (σ := ()) (σ' := ()) (r := kOrd i) (a9 := ([.ref (aK i)] : List Value).toArray) X (fun H locs ls hP hD hSs hl0 => ?_) kk
  exact va_runU (As := []) X.1 (m_ordK hi H.size) (va_cwU 0 X.1.2.2.2.2 hG rfl rfl rfl rfl (by decide +kernel) hR) ⟨gPre_blind hzz, va_recvE X.2.2.2.1.2.2.2.1 hi hSs, (gPre_of hzz X.2.1 X.2.2.1 X.2.2.2.1 hP hD hSs).2⟩ rfl rfl hl0.1 rfl (lv_room hcat) hdg hkn
theorem g_ordO (X : gC (ZC aK aO aS aV aT) p s m args meth c D tys A cc Ts own nL ret) (hzz : gZ (ZC aK aO aS aV aT)) {i : Nat} (hi : i < 4) (hG : GoodIn Ts (va_wsU own index RX4 "java/lang/Enum" ⟨"Cardcabinet$Order", "ordinal", "()I"⟩ yJx29ce0_ordinal_8abf5 wsJx29ce0_ordinal_8abf5)) (hR : 0 + 1 ≤ R.frames ∧ 8 + (1 + 11) + 0 ≤ R.locals) (hcat : (st.map fun v => v.category).sum ≤ 8) (hkn : k ≤ R.cells ∧ n ≤ R.slots) (hdg : decode cc pc = .ok (.invokevirtual index, 3)) (kk : gG p l e R s m args below meth c D tys A nL Q ws k n (pc + 3) lv (.int (oOrd i) :: st)) : gG p l e R s m args below meth c D tys A nL Q ws k n pc lv (.ref (aO i) :: st) := by
  refine g_afterI (Wf := fun _ : Unit => ws) (σ := ()) (σ' := ()) (r := oOrd i) (a9 := ([.ref (aO i)] : List Value).toArray) X (fun H locs ls hP hD hSs hl0 => ?_) kk
  exact va_runU (As := []) X.1 (m_ordO hi H.size) (va_cwU 0 X.1.2.2.2.2 hG rfl rfl rfl rfl (by decide +kernel) hR) ⟨gPre_blind hzz, va_recvE X.2.2.2.1.2.2.2.2.2.1 hi hSs, (gPre_of hzz X.2.1 X.2.2.1 X.2.2.2.1 hP hD hSs).2⟩ rfl rfl hl0.1 rfl (lv_room hcat) hdg hkn
theorem g_slen (X : gC (ZC aK aO aS aV aT) p s m args meth c D tys A cc Ts own nL ret) (hzz : gZ (ZC aK aO aS aV aT)) {i : Nat} (hi : i < 9) (hG : GoodIn Ts (wsV own index RJ0 yJ0_length_8abf5 wsJ0_length_8abf5)) (hR : 1 + 1 ≤ R.frames ∧ 8 + (1 + 11) + 20 ≤ R.locals) (hcat : (st.map fun v => v.category).sum ≤ 8) (hkn : k ≤ R.cells ∧ n ≤ R.slots) (hdg : decode cc pc = .ok (.invokevirtual index, 3)) (kk : gG p l e R s m args below meth c D tys A nL Q ws k n (pc + 3) lv (.int (sLen i) :: st)) : gG p l e R s m args below meth c D tys A nL Q ws k n pc lv (.ref (aS i) :: st) := by
  refine g_afterI (Wf := fun _ : Unit => ws) (σ := ()) (σ' := ()) (r := sLen i) (a9 := ([.ref (aS i)] : List Value).toArray) X (fun H locs ls hP hD hSs hl0 => ?_) kk
  exact va_runV (As := []) X.1 (m_slen hi H.size) (cwV 0 X.1.2.2.2.2 hG rfl rfl rfl (by decide +kernel) hR) ⟨gPre_blind hzz, vk_recv X.2.2.2.1.2.2.2.2.2.2.2.2.2.2.2.2.1 hi hSs, (gPre_of hzz X.2.1 X.2.2.1 X.2.2.2.1 hP hD hSs).2⟩ rfl rfl hl0.1 rfl (lv_room hcat) hdg hkn
theorem g_sch (X : gC (ZC aK aO aS aV aT) p s m args meth c D tys A cc Ts own nL ret) (hzz : gZ (ZC aK aO aS aV aT)) {i : Nat} (hi : i < 9) {q : Int32} (hin : ¬ (q < 0 ∨ zSl.getD i 0 ≤ q.toNatClampNeg)) (hG : GoodIn Ts (wsV own index RJ0 yJ0_charAt_5068e wsJ0_charAt_5068e)) (hR : 3 + 1 ≤ R.frames ∧ 8 + (2 + 11) + 64 ≤ R.locals) (hcat : (st.map fun v => v.category).sum ≤ 8) (hkn : k ≤ R.cells ∧ n ≤ R.slots) (hdg : decode cc pc = .ok (.invokevirtual index, 3)) (kk : gG p l e R s m args below meth c D tys A nL Q ws k n (pc + 3) lv (.int (sCh i q) :: st)) : gG p l e R s m args below meth c D tys A nL Q ws k n pc lv (.int q :: .ref (aS i) :: st) := by
  refine g_afterI (Wf := fun _ : Unit => ws) (σ := ()) (σ' := ()) (r := sCh i q) (a9 := ([.ref (aS i), .int q] : List Value).toArray) X (fun H locs ls hP hD hSs hl0 => ?_) kk
  exact va_runV (As := [.int q]) X.1 (m_sch hi hin H.size) (cwV 1 X.1.2.2.2.2 hG rfl rfl rfl (by decide +kernel) hR) ⟨gPre_blind hzz, vk_recv X.2.2.2.1.2.2.2.2.2.2.2.2.2.2.2.2.1 hi hSs, (gPre_of hzz X.2.1 X.2.2.1 X.2.2.2.1 hP hD hSs).2⟩ rfl rfl hl0.1 rfl (lv_room hcat) hdg hkn
end JCq
