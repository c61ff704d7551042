/-! the start: the facts -/
theorem vkR_ex {own tx : String} {k : Nat} {args : Array Value} {s : State} (h1 : (Cond.stringRef own k tx).before args s = true) (h2 : (Cond.exactly (.string own k) "java/lang/String").before args s = true) : ∃ a, vk_R own k tx a s := by
  obtain ⟨a, c, cell, k9, q1, _⟩ := Cond.exactly_spec h2
  exact ⟨a, vk_R.of h1 q1⟩
theorem st_ZI {args : Array Value} {s : State} {A : Nat → Prop} (ht : ∀ w ∈ tables_1, w.before args s = true) (hn : ∀ w ∈ naF, w.before args s = true) (hA : ∀ a : Nat, a < s.heap.size → ¬ A a) : ∃ aK aO aS aV aT bS bV dA : Nat → Nat, ZI aK aO aS aV aT bS bV dA A s s.heap := by
  have key9 : ∀ i : Nat, ∃ q : Nat × Nat, i < 9 → (zTm i).eval args s none [] s = some (.ref q.1) ∧ vk_S 1 [zSl.getD i 0] [zSb.getD i []] (fun _ => q.1) (fun _ => q.2) A s s.heap := by
    intro i
    by_cases hi : i < 9
    · obtain ⟨uS, uV, uh, ue⟩ := vk_Sof (args := args) (s := s) (N := 1) (tm := fun _ => zTm i) (len := [zSl.getD i 0]) (byt := [zSb.getD i []]) (A := A) (fun k hk => by
          obtain rfl : k = 0 := by omega
          exact (show ∀ i, i < 9 → zSl.getD i 0 < 2 ^ 31 by decide) i hi) (fun _ _ => hn _ (nS_ex i hi)) (fun _ _ => hn _ (nS_co i hi)) (fun _ _ => hn _ (nS_ar i hi)) (fun k hk => by
          obtain rfl : k = 0 := by omega
          exact hn _ (nS_le i hi)) (fun k hk j hj => by
          obtain rfl : k = 0 := by omega
          exact hn _ (nS_el i hi j hj)) (fun a b ha hb hab => absurd (by omega) hab) hA
      exact ⟨(uS 0, uV 0), fun _ => ⟨ue 0 (by decide), fun k hk => by
        obtain rfl : k = 0 := by omega
        exact uh.1 0 (by decide), fun a b ha hb _ => by omega⟩⟩
    · exact ⟨(0, 0), fun h => absurd h hi⟩
  obtain ⟨sq, hsq⟩ := Classical.axiomOfChoice key9
  obtain ⟨aS, haS⟩ : ∃ z : Nat → Nat, z = fun i => (sq i).1 := ⟨_, rfl⟩
  obtain ⟨aV, haV⟩ : ∃ z : Nat → Nat, z = fun i => (sq i).2 := ⟨_, rfl⟩
  have hSe : ∀ i, i < 9 → (zTm i).eval args s none [] s = some (.ref (aS i)) := fun i hi => by rw [haS]; exact (hsq i hi).1
  have hS1 : ∀ i, i < 9 → va_O "java/lang/String" (aS i) A s s.heap ∧ va_OF "java/lang/String" "coder" "B" (.int 0) (aS i) A s s.heap ∧ va_OF "java/lang/String" "value" "[B" (.ref (aV i)) (aS i) A s s.heap ∧ va_T .byte (aV i) (zSl.getD i 0) (fun j => .int ((zSb.getD i []).getD j 0)) A s s.heap := fun i hi => by rw [haS, haV]; exact (hsq i hi).2.1 0 (by decide)
  have hS : vk_S 9 zSl zSb aS aV A s s.heap := ⟨hS1, fun i j hi hj e => by
    by_cases e2 : i = j
    · exact e2
    · exfalso
      have o1 := (hS1 i hi).2.2.1
      have o2 := (hS1 j hj).2.2.1
      rw [← e] at o2
      have e3 : aV i = aV j := by
        exact Value.ref.inj (vaOF_uniq o1 o2)
      have t1 := (hS1 i hi).2.2.2
      have t2 := (hS1 j hj).2.2.2
      rw [← e3] at t2
      obtain ⟨u1, u2⟩ := vaT_uniq t1 t2
      rcases zS_ne i hi j hj e2 with h | ⟨k, -, h1, h2, h3⟩
      · exact h u1
      · exact h3 (Value.int.inj (u2 k h1 h2))⟩
  have iK : (Cond.initialized "Cardcabinet$Kind").before args s = true := ht _ (by decide +kernel)
  have iO : (Cond.initialized "Cardcabinet$Order").before args s = true := ht _ (by decide +kernel)
  have i1 : (Cond.initialized "Cardcabinet$1").before args s = true := ht _ (by decide +kernel)
  obtain ⟨aK, hK, hKe⟩ := va_Enof2 (args := args) (s := s) (E := "Cardcabinet$Kind") (d := "LCardcabinet$Kind;") (nm := zKn) (F := zKf) (A := A) (fun i hi => ht _ (nK_l i hi)) iK (fun i hi => hn _ (nK_ex i hi)) (fun q hq i hi => hn _ (nK_f q hq i hi)) (fun i j hi hj hij => (nK_d i hi j hj hij).imp (hn _) (hn _)) hA
  obtain ⟨aO, hO, hOe⟩ := va_Enof2 (args := args) (s := s) (E := "Cardcabinet$Order") (d := "LCardcabinet$Order;") (nm := zOn) (F := zOf) (A := A) (fun i hi => ht _ (nO_l i hi)) iO (fun i hi => hn _ (nO_ex i hi)) (fun q hq i hi => hn _ (nO_f q hq i hi)) (fun i j hi hj hij => (nO_d i hi j hj hij).imp (hn _) (hn _)) hA
  have hW : va_Ef 6 "Cardcabinet$Kind" "word" "Ljava/lang/String;" (fun i => .ref (aS i)) aK A s s.heap := va_Efof (args := args) (E := "Cardcabinet$Kind") (d0 := "LCardcabinet$Kind;") (nm := zKn) (tm := zTm) (fun i hi => hKe i hi) (fun i hi => hn _ (nK_w i hi)) (fun i hi => hSe i (by omega)) hA
  obtain ⟨t0, e0, T0⟩ := va_Tof (args := args) (s := s) (tm := .static "Cardcabinet$1" "$SwitchMap$Cardcabinet$Kind" "[I") (ty := .int) (N := 6) (f := fun i => .int (zSwK.getD i 0)) (A := A) (by decide) (hn _ (by decide +kernel)) (va_eqt (hn _ (by decide +kernel))) (fun j hj => va_eqt (hn _ (nT0 j hj))) hA
  obtain ⟨t1, e1, T1⟩ := va_Tof (args := args) (s := s) (tm := .static "Cardcabinet$1" "$SwitchMap$Cardcabinet$Order" "[I") (ty := .int) (N := 4) (f := fun i => .int (zSwO.getD i 0)) (A := A) (by decide) (hn _ (by decide +kernel)) (va_eqt (hn _ (by decide +kernel))) (fun j hj => va_eqt (hn _ (nT1 j hj))) hA
  obtain ⟨t2, e2, T2⟩ := va_Tof (args := args) (s := s) (tm := .static "Cardcabinet$Parser" "KINDS" "[LCardcabinet$Kind;") (ty := .object "Cardcabinet$Kind") (N := 6) (f := fun i => .ref (aK i)) (A := A) (by decide) (hn _ (by decide +kernel)) (va_eqt (hn _ (by decide +kernel))) (fun j hj => va_eqv (hn _ (nT2 j hj)) (hKe j hj)) hA
  have key : ∀ i : Nat, ∃ q : Nat × Nat, i < 11 → vk_R RL (zLi.getD i 0) (zLx.getD i "") q.1 s ∧ vk_S 1 [zLl.getD i 0] [zLb.getD i []] (fun _ => q.1) (fun _ => q.2) A s s.heap := by
    intro i
    by_cases hi : i < 11
    · obtain ⟨uS, uV, uh, ue⟩ := vk_Sof (args := args) (s := s) (N := 1) (tm := fun _ => .string RL (zLi.getD i 0)) (len := [zLl.getD i 0]) (byt := [zLb.getD i []]) (A := A) (fun k hk => by
          obtain rfl : k = 0 := by omega
          have := tL_le i
          unfold tL at this
          show zLl.getD i 0 < 2 ^ 31
          omega) (fun _ _ => hn _ (nL_ex i hi)) (fun _ _ => hn _ (nL_co i hi)) (fun _ _ => hn _ (nL_ar i hi)) (fun k hk => by
          obtain rfl : k = 0 := by omega
          exact hn _ (nL_le i hi)) (fun k hk j hj => by
          obtain rfl : k = 0 := by omega
          exact hn _ (nL_el i hi j hj)) (fun a b ha hb hab => absurd (by omega) hab) hA
      exact ⟨(uS 0, uV 0), fun _ => ⟨vk_R.of (ht _ (nL_R i hi)) (ue 0 (by decide)), fun k hk => by
        obtain rfl : k = 0 := by omega
        exact uh.1 0 (by decide), fun a b ha hb _ => by omega⟩⟩
    · exact ⟨(0, 0), fun h => absurd h hi⟩
  obtain ⟨bq, hbq⟩ := Classical.axiomOfChoice key
  obtain ⟨d0, f0, U0⟩ := va_Tof (args := args) (s := s) (tm := .static "java/lang/Integer" "DigitOnes" "[B") (ty := .byte) (N := 100) (f := fun i => .int (zDo i)) (A := A) (by decide) (hn _ (by decide +kernel)) (va_eqt (hn _ (by decide +kernel))) (fun j hj => va_eqt (hn _ (nDo j hj))) hA
  obtain ⟨d1, f1, U1⟩ := va_Tof (args := args) (s := s) (tm := .static "java/lang/Integer" "DigitTens" "[B") (ty := .byte) (N := 100) (f := fun i => .int (zDt i)) (A := A) (by decide) (hn _ (by decide +kernel)) (va_eqt (hn _ (by decide +kernel))) (fun j hj => va_eqt (hn _ (nDt j hj))) hA
  refine ⟨aK, aO, aS, aV, fun i => ([t0, t1, t2] : List Nat).getD i 0, fun i => (bq i).1, fun i => (bq i).2, fun i => ([d0, d1] : List Nat).getD i 0, ⟨⟨⟨?_, ?_⟩, ?_, ?_⟩, ?_, ?_, ?_⟩⟩
  · exact ⟨vk_R.of (ht _ (by decide +kernel)) (hSe 6 (by decide)), vk_R.of (ht _ (by decide +kernel)) (hSe 7 (by decide)), vk_R.of (ht _ (by decide +kernel)) (hSe 8 (by decide)),
      fun q hq => vkR_ex (ht _ (nR q hq).2) (hn _ (nR q hq).1), fun x hx => va_Nw.of rfl (ht _ (nC x hx)), fun x hx => va_Nw.of rfl (ht _ (nD x hx)), fun q hq => va_Nw.of rfl (ht _ (nN q hq))⟩
  · exact ⟨vx_Zqof (ht _ (by decide +kernel)) (ht _ (by decide +kernel)) (hn _ (by decide +kernel)) hA, vx_Zqof (ht _ (by decide +kernel)) (ht _ (by decide +kernel)) (hn _ (by decide +kernel)) hA, hK, hW, hO,
      va_Zref (ht _ (by decide +kernel)) i1 e0 hA, T0, va_Zref (ht _ (by decide +kernel)) i1 e1 hA, T1, va_Zref (ht _ (by decide +kernel)) (ht _ (by decide +kernel)) e2 hA, T2, hS,
      va_Zof (ht _ (by decide +kernel)) (ht _ (by decide +kernel)) (va_eqi (hn _ (by decide +kernel))) hA, va_Zqof (ht _ (by decide +kernel)) (ht _ (by decide +kernel)) (hn _ (by decide +kernel)) hA⟩
  · exact fun E hE nm hm hne => va_Nc.of (hn _ (nX E hE nm hm hne))
  · exact ⟨fun i hi => hbq i hi, va_Zref (ht _ (by decide +kernel)) (ht _ (by decide +kernel)) f0 hA, U0, va_Zref (ht _ (by decide +kernel)) (ht _ (by decide +kernel)) f1 hA, U1⟩
  · exact va_AO.of (ht _ (by decide +kernel))
  · exact va_AO.of (ht _ (by decide +kernel))
  · exact va_Nw.of rfl (ht _ (by decide +kernel))
theorem st_arr {args : Array Value} {s : State} {ty : FieldType} (h : (Cond.arrayClass ty).before args s = true) (hty : ∀ C, ty ≠ .object C) : ∃ cA : ClassId, ArrOfT s cA ty ∧ va_RA s cA ty := by
  obtain ⟨cA, kA, comp, h1, h2, h3⟩ := Cond.arrayClass_spec h
  refine ⟨cA, fun N z => ⟨(fun k h => by cases h), kA, h2, comp, h3⟩, ?_⟩
  cases ty with
  | object C => exact absurd rfl (hty C)
  | _ => exact h1
theorem st_arrO {args : Array Value} {s : State} {C : String} (h : (Cond.arrayOver (.object C)).before args s = true) : ∃ cA : ClassId, ArrOfT s cA (.object C) ∧ va_RA s cA (.object C) := by
  obtain ⟨comp, cA, kA, h1, _, h2, h3, h4⟩ := Cond.arrayOver_spec h
  exact ⟨cA, fun N z => ⟨(fun k h => by cases h), kA, h2, comp, h3⟩, kA, comp, h2, h3, h1, h4⟩
def nCl : List Cond := [Cond.instantiable RJ0 4, Cond.instantiable RJ4 4, Cond.instantiable RX1 3, Cond.instantiable RX2 1, Cond.instantiable RX5 3, Cond.instantiable RX6 2, Cond.instantiable RX7 6, Cond.instantiable RX8 4, Cond.instantiable RX9 4, Cond.instantiable RX10 10] ++ (u_ws RJ0 TJ0 4 ++ u_ws RJ4 TJ4 4 ++ u_ws RX1 TX1 3 ++ u_ws RX2 TX2 1 ++ u_ws RX5 TX5 3 ++ u_ws RX6 TX6 2 ++ u_ws RX7 TX7 6 ++ u_ws RX8 TX8 4 ++ u_ws RX9 TX9 4 ++ u_ws RX10 TX10 10)
theorem nCl_in : ∀ w ∈ nCl, w ∈ tables_1 := by decide +kernel
theorem st_cls {args : Array Value} {s : State} (ht : ∀ w ∈ tables_1, w.before args s = true) : ∃ D : va_G, ∀ (c : Nat) (q : vw_C), vwCl[c]? = some q → u_Kn s q.1 q.2.1 q.2.2 (D.1 c) (D.2 c) := by
  have key : ∀ c : Nat, ∃ d : ClassId × (Nat → Nat), ∀ q : vw_C, vwCl[c]? = some q → u_Kn s q.1 q.2.1 q.2.2 d.1 d.2 := by
    intro c
    cases hc : vwCl[c]? with
    | none => exact ⟨(0, fun _ => 0), fun q h => by cases h⟩
    | some q =>
      have hw : ∀ c, c < 10 → ∀ q, vwCl[c]? = some q → (∀ w ∈ u_ws q.1 q.2.1 q.2.2, w ∈ nCl) ∧ Cond.instantiable q.1 q.2.2 ∈ nCl := fun c hc q hq => match c, hc, hq with
        | 0, _, hq => by cases hq; exact ⟨by decide +kernel, by decide +kernel⟩
        | 1, _, hq => by cases hq; exact ⟨by decide +kernel, by decide +kernel⟩
        | 2, _, hq => by cases hq; exact ⟨by decide +kernel, by decide +kernel⟩
        | 3, _, hq => by cases hq; exact ⟨by decide +kernel, by decide +kernel⟩
        | 4, _, hq => by cases hq; exact ⟨by decide +kernel, by decide +kernel⟩
        | 5, _, hq => by cases hq; exact ⟨by decide +kernel, by decide +kernel⟩
        | 6, _, hq => by cases hq; exact ⟨by decide +kernel, by decide +kernel⟩
        | 7, _, hq => by cases hq; exact ⟨by decide +kernel, by decide +kernel⟩
        | 8, _, hq => by cases hq; exact ⟨by decide +kernel, by decide +kernel⟩
        | 9, _, hq => by cases hq; exact ⟨by decide +kernel, by decide +kernel⟩
        | c + 10, h, _ => absurd h (by omega)
      obtain ⟨h1, h2⟩ := hw c (List.getElem?_eq_some_iff.mp hc).1 q hc
      obtain ⟨cC, iS, hK⟩ := u_known (ws := tables_1) (args := args) (s := s) (n := q.2.2) ht (fun w hw => nCl_in w (h1 w hw)) (ht _ (nCl_in _ h2))
      exact ⟨(cC, iS), fun q' h => by cases h; exact hK⟩
  obtain ⟨d, hd⟩ := Classical.axiomOfChoice key
  exact ⟨(fun c => (d c).1, fun c => (d c).2), hd⟩
theorem st_arrA {args : Array Value} {s : State} {t : FieldType} (h : (Cond.arrayOver (.array t)).before args s = true) : ∃ cA : ClassId, ArrOfT s cA (.array t) ∧ va_RA s cA (.array t) := by
  obtain ⟨comp, cA, kA, h1, _, h2, h3, h4⟩ := arrayOverA_spec h
  exact ⟨cA, fun N z => ⟨(fun k h => by cases h), kA, h2, comp, h3⟩, h4⟩
theorem st_K {args : Array Value} {s : State} (ht : ∀ w ∈ tables_1, w.before args s = true) : ∃ (D : va_G) (cy : Nat → ClassId), va_K D vwCl (cyT cy) s := by
  obtain ⟨D, hD⟩ := st_cls ht
  obtain ⟨c0, h0⟩ := st_arr (ty := .int) (ht _ (by decide +kernel)) (fun C h => by cases h)
  obtain ⟨c1, h1⟩ := st_arr (ty := .byte) (ht _ (by decide +kernel)) (fun C h => by cases h)
  obtain ⟨c2, h2⟩ := st_arr (ty := .boolean) (ht _ (by decide +kernel)) (fun C h => by cases h)
  obtain ⟨c3, h3⟩ := st_arrO (C := "Cardcabinet$Row") (ht _ (by decide +kernel))
  obtain ⟨c4, h4⟩ := st_arrO (C := "Cardcabinet$Run") (ht _ (by decide +kernel))
  obtain ⟨c5, h5⟩ := st_arrA (t := .int) (ht _ (by decide +kernel))
  refine ⟨D, fun k => ([c0, c1, c2, c3, c4, c5] : List ClassId).getD k c0, hD, fun k q hq => ?_⟩
  match k, hq with
  | 0, hq => cases hq; exact h0
  | 1, hq => cases hq; exact h1
  | 2, hq => cases hq; exact h2
  | 3, hq => cases hq; exact h3
  | 4, hq => cases hq; exact h4
  | 5, hq => cases hq; exact h5
  | k + 6, hq => exact nomatch hq
