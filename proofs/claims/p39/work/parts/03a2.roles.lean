/-! what each role holds, and what a store makes of it, by name -/
def isSm (j : Nat) : Prop := j = 8 ∨ j = 9
theorem isSm.mem {j : Nat} (h : ¬ ¬ (j = 8 ∨ j = 9)) : j ∈ cL := by
  rcases Classical.not_not.mp h with rfl | rfl <;> exact mem_cL.mpr (Or.inl (by omega))
theorem isRow24 : isRow 24 := ⟨by omega, by omega⟩
theorem isRow25 : isRow 25 := ⟨by omega, by omega⟩
theorem isRow_r {i : Int32} (h : ¬ (i < 0 ∨ 4 ≤ i.toNatClampNeg)) : isRow (16 + i.toNatClampNeg) := by
  have h2 : ¬ 4 ≤ i.toNatClampNeg := fun z => h (Or.inr z)
  exact ⟨by omega, by omega⟩
theorem isRow_k {i : Int32} (h : ¬ (i < 0 ∨ 4 ≤ i.toNatClampNeg)) : isRow (20 + i.toNatClampNeg) := by
  have h2 : ¬ 4 ≤ i.toNatClampNeg := fun z => h (Or.inr z)
  exact ⟨by omega, by omega⟩
theorem isRun_r {i : Int32} (h : ¬ (i < 0 ∨ 50 ≤ i.toNatClampNeg)) : isRun (64 + i.toNatClampNeg) := by
  have h2 : ¬ 50 ≤ i.toNatClampNeg := fun z => h (Or.inr z)
  exact ⟨by omega, by omega⟩
theorem inR {i : Int32} {n : Nat} (h : ¬ (i < 0 ∨ n ≤ i.toNatClampNeg)) : i.toNatClampNeg < n := Nat.lt_of_not_le fun z => h (Or.inr z)
theorem lt69 {i : Nat} (h : i < 6) : i < 9 := Nat.lt_trans h (by decide)
def nn64 (x : UInt64) : Prop := x &&& 0x7fffffffffffffff ≤ 0x7ff0000000000000
def nn32 (x : UInt32) : Prop := x &&& 0x7fffffff ≤ 0x7f800000
theorem nn64_of {x : UInt64} (h : ¬ ¬ (x &&& 0x7fffffffffffffff ≤ 0x7ff0000000000000)) : vf_n64 x := Classical.not_not.mp h
theorem nn32_of {x : UInt32} (h : ¬ ¬ (x &&& 0x7fffffff ≤ 0x7f800000)) : vf_n32 x := Classical.not_not.mp h
section CS
variable (cy : Nat → ClassId) (A aK : Nat → Nat) (σ : St)
theorem cm0 : 0 ∈ cL := mem_cL.mpr (Or.inl (by omega))
theorem cE_0 : cE cy A aK σ 0 = .inr (9, [.ref (A 1), .ref (A 4), .ref (A 5), .ref (A 6), .ref (A 24), .ref (A 25), .ref (A 7), .ref (A 10), .ref (A 12), .ref (A 14)]) := by rw [cE_s _ _ _ _ (by omega)]; rfl
theorem cm1 : 1 ∈ cL := mem_cL.mpr (Or.inl (by omega))
theorem cE_1 : cE cy A aK σ 1 = .inr (2, [.ref (A 2), .ref (A 3), .int (gi σ 10)]) := by rw [cE_s _ _ _ _ (by omega)]; rfl
theorem cm2 : 2 ∈ cL := mem_cL.mpr (Or.inl (by omega))
theorem cE_2 : cE cy A aK σ 2 = .inl (cy 0, 20000, .inl (gr σ 2)) := by rw [cE_s _ _ _ _ (by omega)]; rfl
theorem cm3 : 3 ∈ cL := mem_cL.mpr (Or.inl (by omega))
theorem cE_3 : cE cy A aK σ 3 = .inl (cy 0, 20000, .inl (gr σ 3)) := by rw [cE_s _ _ _ _ (by omega)]; rfl
theorem cm4 : 4 ∈ cL := mem_cL.mpr (Or.inl (by omega))
theorem cE_4 : cE cy A aK σ 4 = .inl (cy 3, 4, .inr (.inr (.inr (.inr (fun i => some (A (16 + i))))))) := by rw [cE_s _ _ _ _ (by omega)]; rfl
theorem cm5 : 5 ∈ cL := mem_cL.mpr (Or.inl (by omega))
theorem cE_5 : cE cy A aK σ 5 = .inl (cy 3, 4, .inr (.inr (.inr (.inr (fun i => some (A (20 + i))))))) := by rw [cE_s _ _ _ _ (by omega)]; rfl
theorem cm6 : 6 ∈ cL := mem_cL.mpr (Or.inl (by omega))
theorem cE_6 : cE cy A aK σ 6 = .inl (cy 2, 4, .inl (gr σ 6)) := by rw [cE_s _ _ _ _ (by omega)]; rfl
theorem cm7 : 7 ∈ cL := mem_cL.mpr (Or.inl (by omega))
theorem cE_7 : cE cy A aK σ 7 = .inr (7, [.ref (A 1), .ref (A (gp σ 57)), .ref (A (gp σ 58)), .int (gi σ 59)]) := by rw [cE_s _ _ _ _ (by omega)]; rfl
theorem cm8 : 8 ∈ cL := mem_cL.mpr (Or.inl (by omega))
theorem cE_8 : cE cy A aK σ 8 = .inl (cy 0, 3200, .inl (gr σ 8)) := by rw [cE_s _ _ _ _ (by omega)]; rfl
theorem cm9 : 9 ∈ cL := mem_cL.mpr (Or.inl (by omega))
theorem cE_9 : cE cy A aK σ 9 = .inl (cy 0, 3200, .inl (gr σ 9)) := by rw [cE_s _ _ _ _ (by omega)]; rfl
theorem cm10 : 10 ∈ cL := mem_cL.mpr (Or.inl (by omega))
theorem cE_10 : cE cy A aK σ 10 = .inr (8, [.ref (A 11), .int (gi σ 81), .int (gi σ 82), .int (gi σ 83)]) := by rw [cE_s _ _ _ _ (by omega)]; rfl
theorem cm11 : 11 ∈ cL := mem_cL.mpr (Or.inl (by omega))
theorem cE_11 : cE cy A aK σ 11 = .inl (cy 1, 400, .inl (gr σ 11)) := by rw [cE_s _ _ _ _ (by omega)]; rfl
theorem cm12 : 12 ∈ cL := mem_cL.mpr (Or.inl (by omega))
theorem cE_12 : cE cy A aK σ 12 = .inr (4, [.ref (A 10), .ref (A 13), .int (gi σ 98)]) := by rw [cE_s _ _ _ _ (by omega)]; rfl
theorem cm13 : 13 ∈ cL := mem_cL.mpr (Or.inl (by omega))
theorem cE_13 : cE cy A aK σ 13 = .inl (cy 4, 50, .inr (.inr (.inr (.inr (fun i => some (A (64 + i))))))) := by rw [cE_s _ _ _ _ (by omega)]; rfl
theorem cm14 : 14 ∈ cL := mem_cL.mpr (Or.inl (by omega))
theorem cE_14 : cE cy A aK σ 14 = .inr (3, [.int (gi σ 112)]) := by rw [cE_s _ _ _ _ (by omega)]; rfl
theorem cE_sm {j : Nat} (h : ¬ ¬ (j = 8 ∨ j = 9)) : cE cy A aK σ j = .inl (cy 0, 3200, .inl (gr σ j)) := by
  rcases Classical.not_not.mp h with rfl | rfl
  · exact cE_8 cy A aK σ
  · exact cE_9 cy A aK σ
variable (f : Nat → Int32) (v : Int32)
theorem st_c2 : ∀ i ∈ cL, cE cy A aK (sr σ 2 f) i = if i = 2 then .inl (cy 0, 20000, .inl (f)) else cE cy A aK σ i := cE_sr cy A aK σ (by rw [cE_2, gr_sr, if_pos rfl])
theorem st_c3 : ∀ i ∈ cL, cE cy A aK (sr σ 3 f) i = if i = 3 then .inl (cy 0, 20000, .inl (f)) else cE cy A aK σ i := cE_sr cy A aK σ (by rw [cE_3, gr_sr, if_pos rfl])
theorem st_c6 : ∀ i ∈ cL, cE cy A aK (sr σ 6 f) i = if i = 6 then .inl (cy 2, 4, .inl (f)) else cE cy A aK σ i := cE_sr cy A aK σ (by rw [cE_6, gr_sr, if_pos rfl])
theorem st_c11 : ∀ i ∈ cL, cE cy A aK (sr σ 11 f) i = if i = 11 then .inl (cy 1, 400, .inl (f)) else cE cy A aK σ i := cE_sr cy A aK σ (by rw [cE_11, gr_sr, if_pos rfl])
theorem st_mk {j : Nat} (h : isMk j) : ∀ i ∈ cL, cE cy A aK (sr σ j f) i = if i = j then .inl (cy 0, 800, .inl f) else cE cy A aK σ i := cE_sr cy A aK σ (by rw [cE_mk cy A aK _ h, gr_sr, if_pos rfl])
theorem st_sm {j : Nat} (h : ¬ ¬ (j = 8 ∨ j = 9)) : ∀ i ∈ cL, cE cy A aK (sr σ j f) i = if i = j then .inl (cy 0, 3200, .inl f) else cE cy A aK σ i := cE_sr cy A aK σ (by rw [cE_sm cy A aK _ h, gr_sr, if_pos rfl])
theorem sf_c10 : ∀ i ∈ cL, cE cy A aK (si σ 10 v) i = if i = 1 then .inr (2, ([.ref (A 2), .ref (A 3), .int (gi σ 10)] : List Value).set 2 (.int v)) else cE cy A aK σ i := cE_si cy A aK σ (j := 1) (t := 2) (by omega) (by rw [cE_1]; rfl)
theorem sf_c59 : ∀ i ∈ cL, cE cy A aK (si σ 59 v) i = if i = 7 then .inr (7, ([.ref (A 1), .ref (A (gp σ 57)), .ref (A (gp σ 58)), .int (gi σ 59)] : List Value).set 3 (.int v)) else cE cy A aK σ i := cE_si cy A aK σ (j := 7) (t := 3) (by omega) (by rw [cE_7]; rfl)
theorem sf_c81 : ∀ i ∈ cL, cE cy A aK (si σ 81 v) i = if i = 10 then .inr (8, ([.ref (A 11), .int (gi σ 81), .int (gi σ 82), .int (gi σ 83)] : List Value).set 1 (.int v)) else cE cy A aK σ i := cE_si cy A aK σ (j := 10) (t := 1) (by omega) (by rw [cE_10]; rfl)
theorem sf_c82 : ∀ i ∈ cL, cE cy A aK (si σ 82 v) i = if i = 10 then .inr (8, ([.ref (A 11), .int (gi σ 81), .int (gi σ 82), .int (gi σ 83)] : List Value).set 2 (.int v)) else cE cy A aK σ i := cE_si cy A aK σ (j := 10) (t := 2) (by omega) (by rw [cE_10]; rfl)
theorem sf_c83 : ∀ i ∈ cL, cE cy A aK (si σ 83 v) i = if i = 10 then .inr (8, ([.ref (A 11), .int (gi σ 81), .int (gi σ 82), .int (gi σ 83)] : List Value).set 3 (.int v)) else cE cy A aK σ i := cE_si cy A aK σ (j := 10) (t := 3) (by omega) (by rw [cE_10]; rfl)
theorem sf_c98 : ∀ i ∈ cL, cE cy A aK (si σ 98 v) i = if i = 12 then .inr (4, ([.ref (A 10), .ref (A 13), .int (gi σ 98)] : List Value).set 2 (.int v)) else cE cy A aK σ i := cE_si cy A aK σ (j := 12) (t := 2) (by omega) (by rw [cE_12]; rfl)
theorem sf_c112 : ∀ i ∈ cL, cE cy A aK (si σ 112 v) i = if i = 14 then .inr (3, ([.int (gi σ 112)] : List Value).set 0 (.int v)) else cE cy A aK σ i := cE_si cy A aK σ (j := 14) (t := 0) (by omega) (by rw [cE_14]; rfl)
theorem sf_p57 (z : Nat) : ∀ i ∈ cL, cE cy A aK (sp σ 57 z) i = if i = 7 then .inr (7, ([.ref (A 1), .ref (A (gp σ 57)), .ref (A (gp σ 58)), .int (gi σ 59)] : List Value).set 1 (.ref (A z))) else cE cy A aK σ i := cE_sp cy A aK σ (j := 7) (t := 1) (by omega) (by rw [cE_7]; rfl)
theorem sf_p58 (z : Nat) : ∀ i ∈ cL, cE cy A aK (sp σ 58 z) i = if i = 7 then .inr (7, ([.ref (A 1), .ref (A (gp σ 57)), .ref (A (gp σ 58)), .int (gi σ 59)] : List Value).set 2 (.ref (A z))) else cE cy A aK σ i := cE_sp cy A aK σ (j := 7) (t := 2) (by omega) (by rw [cE_7]; rfl)
theorem sf_row {j : Nat} (h : isRow j) : ∀ i ∈ cL, cE cy A aK (si σ (8 * j + 1) v) i = if i = j then .inr (5, ([.ref (A (j + 16)), .int (gi σ (8 * j + 1))] : List Value).set 1 (.int v)) else cE cy A aK σ i := cE_si cy A aK σ (j := j) (t := 1) (by omega) (by rw [cE_row cy A aK _ h, gi_si, if_pos rfl]; rfl)
theorem sf_run1 {j : Nat} (h : isRun j) : ∀ i ∈ cL, cE cy A aK (si σ (8 * j + 1) v) i = if i = j then .inr (6, ([.ref (aK (gp σ (8 * j))), .int (gi σ (8 * j + 1)), .int (gi σ (8 * j + 2)), .int (gi σ (8 * j + 3)), .int (gi σ (8 * j + 4)), .int (gi σ (8 * j + 5))] : List Value).set 1 (.int v)) else cE cy A aK σ i := cE_si cy A aK σ (j := j) (t := 1) (by omega) (by
  rw [cE_run cy A aK _ h]
  simp only [gi_si, gp_si, if_true, if_neg (show ¬ 8 * j + 2 = 8 * j + 1 by omega), if_neg (show ¬ 8 * j + 3 = 8 * j + 1 by omega), if_neg (show ¬ 8 * j + 4 = 8 * j + 1 by omega), if_neg (show ¬ 8 * j + 5 = 8 * j + 1 by omega)]
  rfl)
theorem sf_run2 {j : Nat} (h : isRun j) : ∀ i ∈ cL, cE cy A aK (si σ (8 * j + 2) v) i = if i = j then .inr (6, ([.ref (aK (gp σ (8 * j))), .int (gi σ (8 * j + 1)), .int (gi σ (8 * j + 2)), .int (gi σ (8 * j + 3)), .int (gi σ (8 * j + 4)), .int (gi σ (8 * j + 5))] : List Value).set 2 (.int v)) else cE cy A aK σ i := cE_si cy A aK σ (j := j) (t := 2) (by omega) (by
  rw [cE_run cy A aK _ h]
  simp only [gi_si, gp_si, if_true, if_neg (show ¬ 8 * j + 1 = 8 * j + 2 by omega), if_neg (show ¬ 8 * j + 3 = 8 * j + 2 by omega), if_neg (show ¬ 8 * j + 4 = 8 * j + 2 by omega), if_neg (show ¬ 8 * j + 5 = 8 * j + 2 by omega)]
  rfl)
theorem sf_run3 {j : Nat} (h : isRun j) : ∀ i ∈ cL, cE cy A aK (si σ (8 * j + 3) v) i = if i = j then .inr (6, ([.ref (aK (gp σ (8 * j))), .int (gi σ (8 * j + 1)), .int (gi σ (8 * j + 2)), .int (gi σ (8 * j + 3)), .int (gi σ (8 * j + 4)), .int (gi σ (8 * j + 5))] : List Value).set 3 (.int v)) else cE cy A aK σ i := cE_si cy A aK σ (j := j) (t := 3) (by omega) (by
  rw [cE_run cy A aK _ h]
  simp only [gi_si, gp_si, if_true, if_neg (show ¬ 8 * j + 1 = 8 * j + 3 by omega), if_neg (show ¬ 8 * j + 2 = 8 * j + 3 by omega), if_neg (show ¬ 8 * j + 4 = 8 * j + 3 by omega), if_neg (show ¬ 8 * j + 5 = 8 * j + 3 by omega)]
  rfl)
theorem sf_run4 {j : Nat} (h : isRun j) : ∀ i ∈ cL, cE cy A aK (si σ (8 * j + 4) v) i = if i = j then .inr (6, ([.ref (aK (gp σ (8 * j))), .int (gi σ (8 * j + 1)), .int (gi σ (8 * j + 2)), .int (gi σ (8 * j + 3)), .int (gi σ (8 * j + 4)), .int (gi σ (8 * j + 5))] : List Value).set 4 (.int v)) else cE cy A aK σ i := cE_si cy A aK σ (j := j) (t := 4) (by omega) (by
  rw [cE_run cy A aK _ h]
  simp only [gi_si, gp_si, if_true, if_neg (show ¬ 8 * j + 1 = 8 * j + 4 by omega), if_neg (show ¬ 8 * j + 2 = 8 * j + 4 by omega), if_neg (show ¬ 8 * j + 3 = 8 * j + 4 by omega), if_neg (show ¬ 8 * j + 5 = 8 * j + 4 by omega)]
  rfl)
theorem sf_run5 {j : Nat} (h : isRun j) : ∀ i ∈ cL, cE cy A aK (si σ (8 * j + 5) v) i = if i = j then .inr (6, ([.ref (aK (gp σ (8 * j))), .int (gi σ (8 * j + 1)), .int (gi σ (8 * j + 2)), .int (gi σ (8 * j + 3)), .int (gi σ (8 * j + 4)), .int (gi σ (8 * j + 5))] : List Value).set 5 (.int v)) else cE cy A aK σ i := cE_si cy A aK σ (j := j) (t := 5) (by omega) (by
  rw [cE_run cy A aK _ h]
  simp only [gi_si, gp_si, if_true, if_neg (show ¬ 8 * j + 1 = 8 * j + 5 by omega), if_neg (show ¬ 8 * j + 2 = 8 * j + 5 by omega), if_neg (show ¬ 8 * j + 3 = 8 * j + 5 by omega), if_neg (show ¬ 8 * j + 4 = 8 * j + 5 by omega)]
  rfl)
theorem sf_run0 (z : Nat) {j : Nat} (h : isRun j) : ∀ i ∈ cL, cE cy A aK (sp σ (8 * j) z) i = if i = j then .inr (6, ([.ref (aK (gp σ (8 * j))), .int (gi σ (8 * j + 1)), .int (gi σ (8 * j + 2)), .int (gi σ (8 * j + 3)), .int (gi σ (8 * j + 4)), .int (gi σ (8 * j + 5))] : List Value).set 0 (.ref (aK z))) else cE cy A aK σ i := cE_sp cy A aK σ (j := j) (t := 0) (by omega) (by
  rw [cE_run cy A aK _ h]
  simp only [gi_sp, gp_sp, Nat.add_zero, if_true]
  rfl)
end CS
