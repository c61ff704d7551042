/-! what the class's statics, enum constants, textsq and throws rest on: ZC -/
def zTexts : List (Nat × String) := [(252, "no such row"), (125, "no such place"), (254, "no such part"), (246, "the row is empty"), (222, "the row does not rise"), (214, "the row was never kept"), (96, "the text is not right"), (79, "the text would be too long"), (173, "the part is too long"), (216, "no such thing to tell"), (256, "the part ends ahead of its beginning"), (258, "both rows are the same"), (260, "the row would be too long"), (265, "too many cards would be made")]
def zX : List String := ["java/lang/IllegalStateException", "java/lang/IndexOutOfBoundsException", "java/lang/IllegalArgumentException", "java/util/NoSuchElementException"]
def zD : List String := ["java/lang/RuntimeException", "java/lang/Exception", "java/lang/Throwable"]
def zN : List (String × Nat × MethodName) := [(RX2, 14, yX10_rest), (RX7, 38, yX10_rest), (RX5, 21, yX7_init), (RX10, 11, yX1_init), (RX10, 29, yX6_init), (RX10, 48, yX9_init), (RX10, 64, yX2_init)]
/-- of the tables alone -/
def ZV (aS : Nat → Nat) (U : State) : Prop :=
  vk_R RX5 63 ";" (aS 6) U ∧ vk_R RX5 87 "-" (aS 7) U ∧ vk_R RX5 105 "mod" (aS 8) U ∧ (∀ q ∈ zTexts, ∃ a, vk_R RX10 q.1 q.2 a U) ∧
  (∀ x ∈ zX, va_Nw (.castable x x) U) ∧ (∀ x ∈ zD, va_Nw (.declares ⟨x, "<init>", "(Ljava/lang/String;)V"⟩) U) ∧ (∀ q ∈ zN, va_Nw (.methodLinkNest q.1 q.2.1 q.2.2 "Cardcabinet") U)
def zKn : List String := ["SAME", "RISE", "FALL", "WAVE", "DRAW", "TEETH"]
def zOn : List String := ["BY_FIRST", "BY_SECOND", "BY_BOTH", "DOWN"]
def zKf : List (String × String × String × List Int32) := [("java/lang/Enum", "ordinal", "I", [0, 1, 2, 3, 4, 5]), ("Cardcabinet$Kind", "hasStep", "Z", [0, 1, 1, 1, 1, 1]), ("Cardcabinet$Kind", "hasLength", "Z", [0, 0, 0, 0, 0, 1])]
def zOf : List (String × String × String × List Int32) := [("java/lang/Enum", "ordinal", "I", [0, 1, 2, 3])]
/-- of the heap, offq A -/
def ZH (aK aO aS aV aT : Nat → Nat) (A : Nat → Prop) (U : State) (H : Heap) : Prop :=
  vx_Zq Bundle.tN "UNASSIGNED_STACK" Bundle.steD A U H ∧ vx_Zq Bundle.tN "SUPPRESSED_SENTINEL" Bundle.listD A U H ∧
  va_En "Cardcabinet$Kind" "LCardcabinet$Kind;" zKn zKf aK A U H ∧ va_Ef 6 "Cardcabinet$Kind" "word" "Ljava/lang/String;" (fun i => .ref (aS i)) aK A U H ∧
  va_En "Cardcabinet$Order" "LCardcabinet$Order;" zOn zOf aO A U H ∧
  va_Z "Cardcabinet$1" "$SwitchMap$Cardcabinet$Kind" "[I" (.ref (aT 0)) A U H ∧ va_T .int (aT 0) 6 (fun i => .int (zSwK.getD i 0)) A U H ∧
  va_Z "Cardcabinet$1" "$SwitchMap$Cardcabinet$Order" "[I" (.ref (aT 1)) A U H ∧ va_T .int (aT 1) 4 (fun i => .int (zSwO.getD i 0)) A U H ∧
  va_Z "Cardcabinet$Parser" "KINDS" "[LCardcabinet$Kind;" (.ref (aT 2)) A U H ∧ va_T (.object "Cardcabinet$Kind") (aT 2) 6 (fun i => .ref (aK i)) A U H ∧
  vk_S 9 zSl zSb aS aV A U H ∧ va_Z "java/lang/String" "COMPACT_STRINGS" "Z" (.int 1) A U H ∧
  va_Zq "jdk/internal/util/Preconditions" "SIOOBE_FORMATTER" "Ljava/util/function/BiFunction;" A U H
def ZC (aK aO aS aV aT : Nat → Nat) (A : Nat → Prop) (U : State) (H : Heap) : Prop := ZV aS U ∧ ZH aK aO aS aV aT A U H
theorem ZV.warm {aS : Nat → Nat} {s U : State} (hW : s.WarmedH U.vm) (h : ZV aS s) : ZV aS U := by
  obtain ⟨h1, h2, h3, h4, h5, h6, h7⟩ := h
  refine ⟨vk_R.warm hW h1, vk_R.warm hW h2, vk_R.warm hW h3, fun q hq => ?_, fun x hx => va_Nw.warmC hW (h5 x hx), fun x hx => va_Nw.warmD hW (h6 x hx), fun q hq => va_Nw.warmM hW (h7 q hq)⟩
  obtain ⟨a, ha⟩ := h4 q hq
  exact ⟨a, vk_R.warm hW ha⟩
theorem ZV.same {aS : Nat → Nat} {u U : State} (hv : U.vm = u.vm) (h : ZV aS u) : ZV aS U := by
  obtain ⟨h1, h2, h3, h4, h5, h6, h7⟩ := h
  refine ⟨vk_R.same hv h1, vk_R.same hv h2, vk_R.same hv h3, fun q hq => ?_, fun x hx => va_Nw.same rfl hv.symm (h5 x hx), fun x hx => va_Nw.same rfl hv.symm (h6 x hx), fun q hq => va_Nw.same rfl hv.symm (h7 q hq)⟩
  obtain ⟨a, ha⟩ := h4 q hq
  exact ⟨a, vk_R.same hv ha⟩
theorem ZH.moved {aK aO aS aV aT : Nat → Nat} {A : Nat → Prop} {u U : State} {H : Heap} (hvm : u.vm.Alike U.vm) (h : ZH aK aO aS aV aT A u H) : ZH aK aO aS aV aT A U H := by
  obtain ⟨h1, h2, h3, h4, h5, h6, h7, h8, h9, h10, h11, h12, h13, h14⟩ := h
  exact ⟨vx_Zq.moved hvm h1, vx_Zq.moved hvm h2, va_En.moved hvm h3, va_Ef.moved hvm h4, va_En.moved hvm h5, va_Z.moved hvm h6, va_T.moved hvm h7, va_Z.moved hvm h8, va_T.moved hvm h9, va_Z.moved hvm h10, va_T.moved hvm h11, vk_S.moved hvm h12, va_Z.moved hvm h13, va_Zq.moved hvm h14⟩
theorem ZC_ok (aK aO aS aV aT : Nat → Nat) : gZ (ZC aK aO aS aV aT) := by
  refine ⟨fun A U H H1 h hq => ?_, fun A B U H h hAB => ?_, fun A s U H hW h => ⟨h.1.warm hW, h.2.moved hW.alike⟩, fun A u U H hv h => ⟨h.1.same hv, h.2.moved (by rw [hv]; exact Vm.Alike.refl _)⟩⟩
  · obtain ⟨h0, h1, h2, h3, h4, h5, h6, h7, h8, h9, h10, h11, h12, h13, h14⟩ := h
    exact ⟨h0, h1.kept hq, h2.kept hq, h3.kept hq, h4.kept hq, h5.kept hq, h6.kept hq, h7.kept hq, h8.kept hq, h9.kept hq, h10.kept hq, h11.kept hq, h12.kept hq, h13.kept hq, h14.kept hq⟩
  · obtain ⟨h0, h1, h2, h3, h4, h5, h6, h7, h8, h9, h10, h11, h12, h13, h14⟩ := h
    exact ⟨h0, h1.narrow hAB, h2.narrow hAB, h3.narrow hAB, h4.narrow hAB, h5.narrow hAB, h6.narrow hAB, h7.narrow hAB, h8.narrow hAB, h9.narrow hAB, h10.narrow hAB, h11.narrow hAB, h12.narrow hAB, h13.narrow hAB, h14.narrow hAB⟩
