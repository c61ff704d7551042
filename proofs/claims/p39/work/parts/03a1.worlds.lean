/-! the worlds: Cardcabinet's things by roles, the reference's things by roles -/
abbrev cyT (cy : Nat → ClassId) : List (ClassId × FieldType) := [(cy 0, .int), (cy 1, .byte), (cy 2, .boolean), (cy 3, .object "Cardcabinet$Row"), (cy 4, .object "Cardcabinet$Run"), (cy 5, .array .int)]
/-- roles: 0 the cabinet, 1 deck, 2 firsts, 3 seconds, 4 rows, 5 keptRows, 6 isKept, 7 sorter, 8 and 9 its arrays, 10 text, 11 bytes, 12 parser, 13 runList, 14 draws, 16 .. 25 the Rows (four rows, four kept ones, copy, otherCopy), 32 .. 41 their marks, 64 .. 113 the Runs -/
def cL : List Nat := [0, 1, 2, 3, 4, 5, 6, 7, 8, 9, 10, 11, 12, 13, 14] ++ (List.range' 16 10 ++ (List.range' 32 10 ++ List.range' 64 50))
def cEs (cy : Nat → ClassId) (A : Nat → Nat) (σ : St) (j : Nat) : va_E := match j with
  | 0 => .inr (9, [.ref (A 1), .ref (A 4), .ref (A 5), .ref (A 6), .ref (A 24), .ref (A 25), .ref (A 7), .ref (A 10), .ref (A 12), .ref (A 14)])
  | 1 => .inr (2, [.ref (A 2), .ref (A 3), .int (gi σ 10)])
  | 2 => .inl (cy 0, 20000, .inl (gr σ 2))
  | 3 => .inl (cy 0, 20000, .inl (gr σ 3))
  | 4 => .inl (cy 3, 4, .inr (.inr (.inr (.inr (fun i => some (A (16 + i)))))))
  | 5 => .inl (cy 3, 4, .inr (.inr (.inr (.inr (fun i => some (A (20 + i)))))))
  | 6 => .inl (cy 2, 4, .inl (gr σ 6))
  | 7 => .inr (7, [.ref (A 1), .ref (A (gp σ 57)), .ref (A (gp σ 58)), .int (gi σ 59)])
  | 8 => .inl (cy 0, 3200, .inl (gr σ 8))
  | 9 => .inl (cy 0, 3200, .inl (gr σ 9))
  | 10 => .inr (8, [.ref (A 11), .int (gi σ 81), .int (gi σ 82), .int (gi σ 83)])
  | 11 => .inl (cy 1, 400, .inl (gr σ 11))
  | 12 => .inr (4, [.ref (A 10), .ref (A 13), .int (gi σ 98)])
  | 13 => .inl (cy 4, 50, .inr (.inr (.inr (.inr (fun i => some (A (64 + i)))))))
  | _ => .inr (3, [.int (gi σ 112)])
def cE (cy : Nat → ClassId) (A aK : Nat → Nat) (σ : St) (j : Nat) : va_E :=
  if 64 ≤ j then .inr (6, [.ref (aK (gp σ (8 * j))), .int (gi σ (8 * j + 1)), .int (gi σ (8 * j + 2)), .int (gi σ (8 * j + 3)), .int (gi σ (8 * j + 4)), .int (gi σ (8 * j + 5))])
  else if 32 ≤ j then .inl (cy 0, 800, .inl (gr σ j))
  else if 16 ≤ j then .inr (5, [.ref (A (j + 16)), .int (gi σ (8 * j + 1))])
  else cEs cy A σ j
def cW (cy : Nat → ClassId) (A aK : Nat → Nat) (X9 : va_W) : St → va_W := wF A (cE cy A aK) cL X9
theorem mem_cL {j : Nat} : j ∈ cL ↔ j ≤ 14 ∨ (16 ≤ j ∧ j < 26) ∨ (32 ≤ j ∧ j < 42) ∨ (64 ≤ j ∧ j < 114) := by
  simp only [cL, List.mem_append, List.mem_range'_1, List.mem_cons, List.not_mem_nil, or_false]
  omega
def isRow (j : Nat) : Prop := 16 ≤ j ∧ j < 26
def isMk (j : Nat) : Prop := 32 ≤ j ∧ j < 42
def isRun (j : Nat) : Prop := 64 ≤ j ∧ j < 114
theorem isRow.mem {j : Nat} (h : isRow j) : j ∈ cL := mem_cL.mpr (Or.inr (Or.inl h))
theorem isMk.mem {j : Nat} (h : isMk j) : j ∈ cL := mem_cL.mpr (Or.inr (Or.inr (Or.inl h)))
theorem isRun.mem {j : Nat} (h : isRun j) : j ∈ cL := mem_cL.mpr (Or.inr (Or.inr (Or.inr h)))
theorem isRow.mk {j : Nat} (h : isRow j) : isMk (j + 16) := ⟨by have := h.1; omega, by have := h.2; omega⟩
section CE
variable (cy : Nat → ClassId) (A aK : Nat → Nat) (σ : St)
theorem cE_row {j : Nat} (h : isRow j) : cE cy A aK σ j = .inr (5, [.ref (A (j + 16)), .int (gi σ (8 * j + 1))]) := by
  unfold cE
  rw [if_neg (by have := h.2; omega), if_neg (by have := h.2; omega), if_pos h.1]
theorem cE_mk {j : Nat} (h : isMk j) : cE cy A aK σ j = .inl (cy 0, 800, .inl (gr σ j)) := by
  unfold cE
  rw [if_neg (by have := h.2; omega), if_pos h.1]
theorem cE_run {j : Nat} (h : isRun j) : cE cy A aK σ j = .inr (6, [.ref (aK (gp σ (8 * j))), .int (gi σ (8 * j + 1)), .int (gi σ (8 * j + 2)), .int (gi σ (8 * j + 3)), .int (gi σ (8 * j + 4)), .int (gi σ (8 * j + 5))]) := by
  unfold cE
  rw [if_pos h.1]
theorem cE_s {j : Nat} (h : j < 16) : cE cy A aK σ j = cEs cy A σ j := by
  unfold cE
  rw [if_neg (by omega), if_neg (by omega), if_neg (by omega)]
theorem cE_congr {σ σ' : St} {i : Nat} (h1 : ∀ t, t < 8 → gi σ' (8 * i + t) = gi σ (8 * i + t)) (h2 : ∀ t, t < 8 → gp σ' (8 * i + t) = gp σ (8 * i + t)) (h3 : gr σ' i = gr σ i) (h14 : i ∈ cL) : cE cy A aK σ' i = cE cy A aK σ i := by
  rcases mem_cL.mp h14 with h | h | h | h
  · rw [cE_s _ _ _ _ (by omega), cE_s _ _ _ _ (by omega)]
    match i, h, h1, h2, h3 with
    | 0, _, _, _, _ => rfl
    | 1, _, h1, _, _ => simp only [cEs, show gi σ' 10 = gi σ 10 from h1 2 (by omega)]
    | 2, _, _, _, h3 => simp only [cEs, h3]
    | 3, _, _, _, h3 => simp only [cEs, h3]
    | 4, _, _, _, _ => rfl
    | 5, _, _, _, _ => rfl
    | 6, _, _, _, h3 => simp only [cEs, h3]
    | 7, _, h1, h2, _ => simp only [cEs, show gp σ' 57 = gp σ 57 from h2 1 (by omega), show gp σ' 58 = gp σ 58 from h2 2 (by omega), show gi σ' 59 = gi σ 59 from h1 3 (by omega)]
    | 8, _, _, _, h3 => simp only [cEs, h3]
    | 9, _, _, _, h3 => simp only [cEs, h3]
    | 10, _, h1, _, _ => simp only [cEs, show gi σ' 81 = gi σ 81 from h1 1 (by omega), show gi σ' 82 = gi σ 82 from h1 2 (by omega), show gi σ' 83 = gi σ 83 from h1 3 (by omega)]
    | 11, _, _, _, h3 => simp only [cEs, h3]
    | 12, _, h1, _, _ => simp only [cEs, show gi σ' 98 = gi σ 98 from h1 2 (by omega)]
    | 13, _, _, _, _ => rfl
    | 14, _, h1, _, _ => simp only [cEs, show gi σ' 112 = gi σ 112 from h1 0 (by omega)]
    | i + 15, h, _, _, _ => exact absurd h (by omega)
  · rw [cE_row _ _ _ _ h, cE_row _ _ _ _ h, h1 1 (by omega)]
  · rw [cE_mk _ _ _ _ h, cE_mk _ _ _ _ h, h3]
  · rw [cE_run _ _ _ _ h, cE_run _ _ _ _ h, h1 1 (by omega), h1 2 (by omega), h1 3 (by omega), h1 4 (by omega), h1 5 (by omega), show gp σ' (8 * i) = gp σ (8 * i) from h2 0 (by omega)]
/-- an int of the thing j, at its slot t, is written -/
theorem cE_si {j t : Nat} {v : Int32} {e : va_E} (ht : t < 8) (he : cE cy A aK (si σ (8 * j + t) v) j = e) : ∀ i ∈ cL, cE cy A aK (si σ (8 * j + t) v) i = if i = j then e else cE cy A aK σ i := by
  intro i hi
  by_cases h : i = j
  · rw [if_pos h, h]; exact he
  · rw [if_neg h]
    refine cE_congr _ _ _ (fun u hu => ?_) (fun u hu => gp_si _ _ _ _) (by rw [gr_si]) hi
    rw [gi_si, if_neg (by omega)]
theorem cE_sp {j t : Nat} {v : Nat} {e : va_E} (ht : t < 8) (he : cE cy A aK (sp σ (8 * j + t) v) j = e) : ∀ i ∈ cL, cE cy A aK (sp σ (8 * j + t) v) i = if i = j then e else cE cy A aK σ i := by
  intro i hi
  by_cases h : i = j
  · rw [if_pos h, h]; exact he
  · rw [if_neg h]
    refine cE_congr _ _ _ (fun u hu => gi_sp _ _ _ _) (fun u hu => ?_) (by rw [gr_sp]) hi
    rw [gp_sp, if_neg (by omega)]
theorem cE_sr {j : Nat} {f : Nat → Int32} {e : va_E} (he : cE cy A aK (sr σ j f) j = e) : ∀ i ∈ cL, cE cy A aK (sr σ j f) i = if i = j then e else cE cy A aK σ i := by
  intro i hi
  by_cases h : i = j
  · rw [if_pos h, h]; exact he
  · rw [if_neg h]
    refine cE_congr _ _ _ (fun u hu => gi_sr _ _ _ _) (fun u hu => gp_sr _ _ _ _) ?_ hi
    rw [gr_sr, if_neg h]
end CE
