/-! what the Statement gives of the law's start: ZI, the classes' and the arrays' numbers -/
def zTm : Nat → Term := fun i => ([Term.string "Cardcabinet$Kind" 53, Term.string "Cardcabinet$Kind" 59, Term.string "Cardcabinet$Kind" 62, Term.string "Cardcabinet$Kind" 65, Term.string "Cardcabinet$Kind" 68, Term.string "Cardcabinet$Kind" 71, Term.string "Cardcabinet$Parser" 63, Term.string "Cardcabinet$Parser" 87, Term.string "Cardcabinet$Parser" 105] : List Term).getD i (Term.int 0)
abbrev naF : List Cond := flatC (Jvm.Cond.and given_1 narrow_1)
theorem nS_ex : ∀ i, i < 9 → Cond.exactly (zTm i) "java/lang/String" ∈ naF := by decide +kernel
theorem nS_co : ∀ i, i < 9 → Cond.eq (.field (zTm i) "java/lang/String" "coder" "B") (.int 0) ∈ naF := by decide +kernel
theorem nS_ar : ∀ i, i < 9 → Cond.arrayOf (.field (zTm i) "java/lang/String" "value" "[B") .byte ∈ naF := by decide +kernel
theorem nS_le : ∀ i, i < 9 → Cond.eq (.length (.field (zTm i) "java/lang/String" "value" "[B")) (.int (Int32.ofNat (zSl.getD i 0))) ∈ naF := by decide +kernel
theorem nS_el0 : ∀ j, j < zSl.getD 0 0 → Cond.eq (.elem (.field (zTm 0) "java/lang/String" "value" "[B") (.int (Int32.ofNat j))) (.int ((zSb.getD 0 []).getD j 0)) ∈ naF := by decide +kernel
theorem nS_el1 : ∀ j, j < zSl.getD 1 0 → Cond.eq (.elem (.field (zTm 1) "java/lang/String" "value" "[B") (.int (Int32.ofNat j))) (.int ((zSb.getD 1 []).getD j 0)) ∈ naF := by decide +kernel
theorem nS_el2 : ∀ j, j < zSl.getD 2 0 → Cond.eq (.elem (.field (zTm 2) "java/lang/String" "value" "[B") (.int (Int32.ofNat j))) (.int ((zSb.getD 2 []).getD j 0)) ∈ naF := by decide +kernel
theorem nS_el3 : ∀ j, j < zSl.getD 3 0 → Cond.eq (.elem (.field (zTm 3) "java/lang/String" "value" "[B") (.int (Int32.ofNat j))) (.int ((zSb.getD 3 []).getD j 0)) ∈ naF := by decide +kernel
theorem nS_el4 : ∀ j, j < zSl.getD 4 0 → Cond.eq (.elem (.field (zTm 4) "java/lang/String" "value" "[B") (.int (Int32.ofNat j))) (.int ((zSb.getD 4 []).getD j 0)) ∈ naF := by decide +kernel
theorem nS_el5 : ∀ j, j < zSl.getD 5 0 → Cond.eq (.elem (.field (zTm 5) "java/lang/String" "value" "[B") (.int (Int32.ofNat j))) (.int ((zSb.getD 5 []).getD j 0)) ∈ naF := by decide +kernel
theorem nS_el6 : ∀ j, j < zSl.getD 6 0 → Cond.eq (.elem (.field (zTm 6) "java/lang/String" "value" "[B") (.int (Int32.ofNat j))) (.int ((zSb.getD 6 []).getD j 0)) ∈ naF := by decide +kernel
theorem nS_el7 : ∀ j, j < zSl.getD 7 0 → Cond.eq (.elem (.field (zTm 7) "java/lang/String" "value" "[B") (.int (Int32.ofNat j))) (.int ((zSb.getD 7 []).getD j 0)) ∈ naF := by decide +kernel
theorem nS_el8 : ∀ j, j < zSl.getD 8 0 → Cond.eq (.elem (.field (zTm 8) "java/lang/String" "value" "[B") (.int (Int32.ofNat j))) (.int ((zSb.getD 8 []).getD j 0)) ∈ naF := by decide +kernel
theorem nS_el : ∀ i, i < 9 → ∀ j, j < zSl.getD i 0 → Cond.eq (.elem (.field (zTm i) "java/lang/String" "value" "[B") (.int (Int32.ofNat j))) (.int ((zSb.getD i []).getD j 0)) ∈ naF := fun i hi => match i, hi with | 0, _ => nS_el0 | 1, _ => nS_el1 | 2, _ => nS_el2 | 3, _ => nS_el3 | 4, _ => nS_el4 | 5, _ => nS_el5 | 6, _ => nS_el6 | 7, _ => nS_el7 | 8, _ => nS_el8 | i + 9, h => absurd h (by omega)
theorem nK_l : ∀ i, i < zKn.length → Cond.laysStatic "Cardcabinet$Kind" (zKn.getD i "") "LCardcabinet$Kind;" ∈ tables_1 := by decide +kernel
theorem nK_ex : ∀ i, i < zKn.length → Cond.exactly (.static "Cardcabinet$Kind" (zKn.getD i "") "LCardcabinet$Kind;") "Cardcabinet$Kind" ∈ naF := by decide +kernel
theorem nK_f : ∀ q ∈ zKf, ∀ i, i < zKn.length → Cond.eq (.field (.static "Cardcabinet$Kind" (zKn.getD i "") "LCardcabinet$Kind;") q.1 q.2.1 q.2.2.1) (.int (q.2.2.2.getD i 0)) ∈ naF := by decide +kernel
theorem nK_w : ∀ i, i < 6 → Cond.eq (.field (.static "Cardcabinet$Kind" (zKn.getD i "") "LCardcabinet$Kind;") "Cardcabinet$Kind" "word" "Ljava/lang/String;") (zTm i) ∈ naF := by decide +kernel
theorem nK_d : ∀ i, i < zKn.length → ∀ j, j < zKn.length → i ≠ j → Cond.not (.eq (.static "Cardcabinet$Kind" (zKn.getD i "") "LCardcabinet$Kind;") (.static "Cardcabinet$Kind" (zKn.getD j "") "LCardcabinet$Kind;")) ∈ naF ∨ Cond.not (.eq (.static "Cardcabinet$Kind" (zKn.getD j "") "LCardcabinet$Kind;") (.static "Cardcabinet$Kind" (zKn.getD i "") "LCardcabinet$Kind;")) ∈ naF := by decide +kernel
theorem nO_l : ∀ i, i < zOn.length → Cond.laysStatic "Cardcabinet$Order" (zOn.getD i "") "LCardcabinet$Order;" ∈ tables_1 := by decide +kernel
theorem nO_ex : ∀ i, i < zOn.length → Cond.exactly (.static "Cardcabinet$Order" (zOn.getD i "") "LCardcabinet$Order;") "Cardcabinet$Order" ∈ naF := by decide +kernel
theorem nO_f : ∀ q ∈ zOf, ∀ i, i < zOn.length → Cond.eq (.field (.static "Cardcabinet$Order" (zOn.getD i "") "LCardcabinet$Order;") q.1 q.2.1 q.2.2.1) (.int (q.2.2.2.getD i 0)) ∈ naF := by decide +kernel
theorem nO_d : ∀ i, i < zOn.length → ∀ j, j < zOn.length → i ≠ j → Cond.not (.eq (.static "Cardcabinet$Order" (zOn.getD i "") "LCardcabinet$Order;") (.static "Cardcabinet$Order" (zOn.getD j "") "LCardcabinet$Order;")) ∈ naF ∨ Cond.not (.eq (.static "Cardcabinet$Order" (zOn.getD j "") "LCardcabinet$Order;") (.static "Cardcabinet$Order" (zOn.getD i "") "LCardcabinet$Order;")) ∈ naF := by decide +kernel
theorem nT0 : ∀ j, j < 6 → Cond.eq (.elem (.static "Cardcabinet$1" "$SwitchMap$Cardcabinet$Kind" "[I") (.int (Int32.ofNat j))) (.int (zSwK.getD j 0)) ∈ naF := by decide +kernel
theorem nT1 : ∀ j, j < 4 → Cond.eq (.elem (.static "Cardcabinet$1" "$SwitchMap$Cardcabinet$Order" "[I") (.int (Int32.ofNat j))) (.int (zSwO.getD j 0)) ∈ naF := by decide +kernel
theorem nT2 : ∀ j, j < 6 → Cond.eq (.elem (.static "Cardcabinet$Parser" "KINDS" "[LCardcabinet$Kind;") (.int (Int32.ofNat j))) (.static "Cardcabinet$Kind" (zKn.getD j "") "LCardcabinet$Kind;") ∈ naF := by decide +kernel
theorem nX : ∀ E ∈ zX, ∀ nm ∈ zX, E ≠ nm → Cond.not (.castable E nm) ∈ naF := by decide +kernel
theorem nR : ∀ q ∈ zTexts, Cond.exactly (.string RX10 q.1) "java/lang/String" ∈ naF ∧ Cond.stringRef RX10 q.1 q.2 ∈ tables_1 := by decide +kernel
theorem nC : ∀ x ∈ zX, Cond.castable x x ∈ tables_1 := by decide +kernel
theorem nD : ∀ x ∈ zD, Cond.declares ⟨x, "<init>", "(Ljava/lang/String;)V"⟩ ∈ tables_1 := by decide +kernel
theorem nN : ∀ q ∈ zN, Cond.methodLinkNest q.1 q.2.1 q.2.2 "Cardcabinet" ∈ tables_1 := by decide +kernel
theorem zS_ne : ∀ i, i < 9 → ∀ j, j < 9 → i ≠ j → Int32.ofNat (zSl.getD i 0) ≠ Int32.ofNat (zSl.getD j 0) ∨ ∃ k, k < 5 ∧ (k < zSl.getD i 0 ∧ k < zSl.getD j 0 ∧ (zSb.getD i []).getD k 0 ≠ (zSb.getD j []).getD k 0) := by decide +kernel
theorem vaOF_uniq {o n d : String} {v v' : Value} {t : Nat} {A : Nat → Prop} {U : State} {H : Heap} (h : va_OF o n d v t A U H) (h' : va_OF o n d v' t A U H) : v = v' := by
  obtain ⟨c1, k1, i1, f1, e1, a1, a2, a3, a4, a5, a6⟩ := h
  obtain ⟨c2, k2, i2, f2, e2, b1, b2, b3, b4, b5, b6⟩ := h'
  have e := a1.symm.trans b1
  cases e
  have e9 := a3.symm.trans b3
  cases e9
  exact Option.some.inj (a5.symm.trans b5)
theorem vaT_uniq {ty : FieldType} {t N N' : Nat} {f f' : Nat → Value} {A : Nat → Prop} {U : State} {H : Heap} (h : va_T ty t N f A U H) (h' : va_T ty t N' f' A U H) : Int32.ofNat N = Int32.ofNat N' ∧ ∀ j, j < N → j < N' → f j = f' j := by
  obtain ⟨c, a1, a2, a3, a4, a5, a6, a7⟩ := h
  obtain ⟨c', b1, b2, b3, b4, b5, b6, b7⟩ := h'
  have e9 := a1.symm.trans b1
  cases e9
  exact ⟨a5.symm.trans b5, fun j h1 h2 => Option.some.inj ((a6 j h1).symm.trans (b6 j h2))⟩
theorem nL_ex : ∀ i, i < 11 → Cond.exactly (.string RL (zLi.getD i 0)) "java/lang/String" ∈ naF := by decide +kernel
theorem nL_co : ∀ i, i < 11 → Cond.eq (.field (.string RL (zLi.getD i 0)) "java/lang/String" "coder" "B") (.int 0) ∈ naF := by decide +kernel
theorem nL_ar : ∀ i, i < 11 → Cond.arrayOf (.field (.string RL (zLi.getD i 0)) "java/lang/String" "value" "[B") .byte ∈ naF := by decide +kernel
theorem nL_le : ∀ i, i < 11 → Cond.eq (.length (.field (.string RL (zLi.getD i 0)) "java/lang/String" "value" "[B")) (.int (Int32.ofNat (zLl.getD i 0))) ∈ naF := by decide +kernel
theorem nL_el : ∀ i, i < 11 → ∀ j, j < zLl.getD i 0 → Cond.eq (.elem (.field (.string RL (zLi.getD i 0)) "java/lang/String" "value" "[B") (.int (Int32.ofNat j))) (.int ((zLb.getD i []).getD j 0)) ∈ naF := by decide +kernel
theorem nL_R : ∀ i, i < 11 → Cond.stringRef RL (zLi.getD i 0) (zLx.getD i "") ∈ tables_1 := by decide +kernel
theorem nDo_0 : ∀ j, j < 10 → Cond.eq (.elem (.static "java/lang/Integer" "DigitOnes" "[B") (.int (Int32.ofNat (0 + j)))) (.int (zDo (0 + j))) ∈ naF := by decide +kernel
theorem nDo_1 : ∀ j, j < 10 → Cond.eq (.elem (.static "java/lang/Integer" "DigitOnes" "[B") (.int (Int32.ofNat (10 + j)))) (.int (zDo (10 + j))) ∈ naF := by decide +kernel
theorem nDo_2 : ∀ j, j < 10 → Cond.eq (.elem (.static "java/lang/Integer" "DigitOnes" "[B") (.int (Int32.ofNat (20 + j)))) (.int (zDo (20 + j))) ∈ naF := by decide +kernel
theorem nDo_3 : ∀ j, j < 10 → Cond.eq (.elem (.static "java/lang/Integer" "DigitOnes" "[B") (.int (Int32.ofNat (30 + j)))) (.int (zDo (30 + j))) ∈ naF := by decide +kernel
theorem nDo_4 : ∀ j, j < 10 → Cond.eq (.elem (.static "java/lang/Integer" "DigitOnes" "[B") (.int (Int32.ofNat (40 + j)))) (.int (zDo (40 + j))) ∈ naF := by decide +kernel
theorem nDo_5 : ∀ j, j < 10 → Cond.eq (.elem (.static "java/lang/Integer" "DigitOnes" "[B") (.int (Int32.ofNat (50 + j)))) (.int (zDo (50 + j))) ∈ naF := by decide +kernel
theorem nDo_6 : ∀ j, j < 10 → Cond.eq (.elem (.static "java/lang/Integer" "DigitOnes" "[B") (.int (Int32.ofNat (60 + j)))) (.int (zDo (60 + j))) ∈ naF := by decide +kernel
theorem nDo_7 : ∀ j, j < 10 → Cond.eq (.elem (.static "java/lang/Integer" "DigitOnes" "[B") (.int (Int32.ofNat (70 + j)))) (.int (zDo (70 + j))) ∈ naF := by decide +kernel
theorem nDo_8 : ∀ j, j < 10 → Cond.eq (.elem (.static "java/lang/Integer" "DigitOnes" "[B") (.int (Int32.ofNat (80 + j)))) (.int (zDo (80 + j))) ∈ naF := by decide +kernel
theorem nDo_9 : ∀ j, j < 10 → Cond.eq (.elem (.static "java/lang/Integer" "DigitOnes" "[B") (.int (Int32.ofNat (90 + j)))) (.int (zDo (90 + j))) ∈ naF := by decide +kernel
theorem nDo : ∀ j, j < 100 → Cond.eq (.elem (.static "java/lang/Integer" "DigitOnes" "[B") (.int (Int32.ofNat j))) (.int (zDo j)) ∈ naF := by
  intro j hj
  rcases (show j / 10 = 0 ∨ j / 10 = 1 ∨ j / 10 = 2 ∨ j / 10 = 3 ∨ j / 10 = 4 ∨ j / 10 = 5 ∨ j / 10 = 6 ∨ j / 10 = 7 ∨ j / 10 = 8 ∨ j / 10 = 9 by omega) with h | h | h | h | h | h | h | h | h | h
  · have := nDo_0 (j - 0) (by omega)
    rw [show 0 + (j - 0) = j by omega] at this
    exact this
  · have := nDo_1 (j - 10) (by omega)
    rw [show 10 + (j - 10) = j by omega] at this
    exact this
  · have := nDo_2 (j - 20) (by omega)
    rw [show 20 + (j - 20) = j by omega] at this
    exact this
  · have := nDo_3 (j - 30) (by omega)
    rw [show 30 + (j - 30) = j by omega] at this
    exact this
  · have := nDo_4 (j - 40) (by omega)
    rw [show 40 + (j - 40) = j by omega] at this
    exact this
  · have := nDo_5 (j - 50) (by omega)
    rw [show 50 + (j - 50) = j by omega] at this
    exact this
  · have := nDo_6 (j - 60) (by omega)
    rw [show 60 + (j - 60) = j by omega] at this
    exact this
  · have := nDo_7 (j - 70) (by omega)
    rw [show 70 + (j - 70) = j by omega] at this
    exact this
  · have := nDo_8 (j - 80) (by omega)
    rw [show 80 + (j - 80) = j by omega] at this
    exact this
  · have := nDo_9 (j - 90) (by omega)
    rw [show 90 + (j - 90) = j by omega] at this
    exact this
theorem nDt_0 : ∀ j, j < 10 → Cond.eq (.elem (.static "java/lang/Integer" "DigitTens" "[B") (.int (Int32.ofNat (0 + j)))) (.int (zDt (0 + j))) ∈ naF := by decide +kernel
theorem nDt_1 : ∀ j, j < 10 → Cond.eq (.elem (.static "java/lang/Integer" "DigitTens" "[B") (.int (Int32.ofNat (10 + j)))) (.int (zDt (10 + j))) ∈ naF := by decide +kernel
theorem nDt_2 : ∀ j, j < 10 → Cond.eq (.elem (.static "java/lang/Integer" "DigitTens" "[B") (.int (Int32.ofNat (20 + j)))) (.int (zDt (20 + j))) ∈ naF := by decide +kernel
theorem nDt_3 : ∀ j, j < 10 → Cond.eq (.elem (.static "java/lang/Integer" "DigitTens" "[B") (.int (Int32.ofNat (30 + j)))) (.int (zDt (30 + j))) ∈ naF := by decide +kernel
theorem nDt_4 : ∀ j, j < 10 → Cond.eq (.elem (.static "java/lang/Integer" "DigitTens" "[B") (.int (Int32.ofNat (40 + j)))) (.int (zDt (40 + j))) ∈ naF := by decide +kernel
theorem nDt_5 : ∀ j, j < 10 → Cond.eq (.elem (.static "java/lang/Integer" "DigitTens" "[B") (.int (Int32.ofNat (50 + j)))) (.int (zDt (50 + j))) ∈ naF := by decide +kernel
theorem nDt_6 : ∀ j, j < 10 → Cond.eq (.elem (.static "java/lang/Integer" "DigitTens" "[B") (.int (Int32.ofNat (60 + j)))) (.int (zDt (60 + j))) ∈ naF := by decide +kernel
theorem nDt_7 : ∀ j, j < 10 → Cond.eq (.elem (.static "java/lang/Integer" "DigitTens" "[B") (.int (Int32.ofNat (70 + j)))) (.int (zDt (70 + j))) ∈ naF := by decide +kernel
theorem nDt_8 : ∀ j, j < 10 → Cond.eq (.elem (.static "java/lang/Integer" "DigitTens" "[B") (.int (Int32.ofNat (80 + j)))) (.int (zDt (80 + j))) ∈ naF := by decide +kernel
theorem nDt_9 : ∀ j, j < 10 → Cond.eq (.elem (.static "java/lang/Integer" "DigitTens" "[B") (.int (Int32.ofNat (90 + j)))) (.int (zDt (90 + j))) ∈ naF := by decide +kernel
theorem nDt : ∀ j, j < 100 → Cond.eq (.elem (.static "java/lang/Integer" "DigitTens" "[B") (.int (Int32.ofNat j))) (.int (zDt j)) ∈ naF := by
  intro j hj
  rcases (show j / 10 = 0 ∨ j / 10 = 1 ∨ j / 10 = 2 ∨ j / 10 = 3 ∨ j / 10 = 4 ∨ j / 10 = 5 ∨ j / 10 = 6 ∨ j / 10 = 7 ∨ j / 10 = 8 ∨ j / 10 = 9 by omega) with h | h | h | h | h | h | h | h | h | h
  · have := nDt_0 (j - 0) (by omega)
    rw [show 0 + (j - 0) = j by omega] at this
    exact this
  · have := nDt_1 (j - 10) (by omega)
    rw [show 10 + (j - 10) = j by omega] at this
    exact this
  · have := nDt_2 (j - 20) (by omega)
    rw [show 20 + (j - 20) = j by omega] at this
    exact this
  · have := nDt_3 (j - 30) (by omega)
    rw [show 30 + (j - 30) = j by omega] at this
    exact this
  · have := nDt_4 (j - 40) (by omega)
    rw [show 40 + (j - 40) = j by omega] at this
    exact this
  · have := nDt_5 (j - 50) (by omega)
    rw [show 50 + (j - 50) = j by omega] at this
    exact this
  · have := nDt_6 (j - 60) (by omega)
    rw [show 60 + (j - 60) = j by omega] at this
    exact this
  · have := nDt_7 (j - 70) (by omega)
    rw [show 70 + (j - 70) = j by omega] at this
    exact this
  · have := nDt_8 (j - 80) (by omega)
    rw [show 80 + (j - 80) = j by omega] at this
    exact this
  · have := nDt_9 (j - 90) (by omega)
    rw [show 90 + (j - 90) = j by omega] at this
    exact this
