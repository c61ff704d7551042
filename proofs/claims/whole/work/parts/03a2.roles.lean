/-! what each role holds, and what a store makes of it, by name -/
def isSm (j : Nat) : Prop := j = 8 ∨ j = 9
theorem isSm.mem {j : Nat} (h : ¬ ¬ (j = 8 ∨ j = 9)) : j ∈ cL := by
  rcases Classical.not_not.mp h with rfl | rfl <;> exact mem_cL.mpr (Or.inl (by omega))
theorem isRow24 : isRow 24 := ⟨by omega, by omega⟩
theorem isRow25 : isRow 25 := ⟨by omega, by omega⟩
theorem isRow_r {i : Int32} (h : ¬ (i < 0 ∨ 4 ≤ i.toNatClampNeg)) : isRow (16 + i.toNatClampNeg) := by
  have h2 : ¬ 4 ≤ i.toNatClampNeg := fun z => h (Or.inr z)
  exact ⟨by omega, by omega⟩
theorem isRow_k {i : Int32} (h : ¬ (i < 0 ∨ 4 ≤ i.toNatClampNeg)) : isRow (20 + i.toNatClampNeg) := by
  have h2 : ¬ 4 ≤ i.toNatClampNeg := fun z => h (Or.inr z)
  exact ⟨by omega, by omega⟩
theorem isRun_r {i : Int32} (h : ¬ (i < 0 ∨ 50 ≤ i.toNatClampNeg)) : isRun (64 + i.toNatClampNeg) := by
  have h2 : ¬ 50 ≤ i.toNatClampNeg := fun z => h (Or.inr z)
  exact ⟨by omega, by omega⟩
theorem inR {i : Int32} {n : Nat} (h : ¬ (i < 0 ∨ n ≤ i.toNatClampNeg)) : i.toNatClampNeg < n := Nat.lt_of_not_le fun z => h (Or.inr z)
theorem lt69 {i : Nat} (h : i < 6) : i < 9 := Nat.lt_trans h (by decide)
def nn64 (x : UInt64) : Prop := x &&& 0x7fffffffffffffff ≤ 0x7ff0000000000000
def nn32 (x : UInt32) : Prop := x &&& 0x7fffffff ≤ 0x7f800000
theorem nn64_of {x : UInt64} (h : ¬ ¬ (x &&& 0x7fffffffffffffff ≤ 0x7ff0000000000000)) : vf_n64 x := Classical.not_not.mp h
theorem nn32_of {x : UInt32} (h : ¬ ¬ (x &&& 0x7fffffff ≤ 0x7f800000)) : vf_n32 x := Classical.not_not.mp h
section CS
variable (cy : Nat → ClassId) (A aK : Nat → Nat) (σ : St)
theorem cm0 : 0 ∈ cL := mem_cL.mpr (Or.inl (by omega))
theorem cE_0 : cE cy A aK σ 0 = .inr (7, [.ref (A 1), .ref (A 4), .ref (A 5), .ref (A 6), .ref (A 24), .ref (A 25), .ref (A 7), .ref (A 10), .ref (A 12), .ref (A 14)]) := by rw [cE_s _ _ _ _ (by omega)]; rfl
theorem cm1 : 1 ∈ cL := mem_cL.mpr (Or.inl (by omega))
theorem cE_1 : cE cy A aK σ 1 = .inr (0, [.ref (A 2), .ref (A 3), .int (gi σ 10)]) := by rw [cE_s _ _ _ _ (by omega)]; rfl
theorem cm2 : 2 ∈ cL := mem_cL.mpr (Or.inl (by omega))
theorem cE_2 : cE cy A aK σ 2 = .inl (cy 0, 20000, .inl (gr σ 2)) := by rw [cE_s _ _ _ _ (by omega)]; rfl
theorem cm3 : 3 ∈ cL := mem_cL.mpr (Or.inl (by omega))
theorem cE_3 : cE cy A aK σ 3 = .inl (cy 0, 20000, .inl (gr σ 3)) := by rw [cE_s _ _ _ _ (by omega)]; rfl
theorem cm4 : 4 ∈ cL := mem_cL.mpr (Or.inl (by omega))
theorem cE_4 : cE cy A aK σ 4 = .inl (cy 3, 4, .inr (.inr (.inr (.inr (fun i => some (A (16 + i))))))) := by rw [cE_s _ _ _ _ (by omega)]; rfl
theorem cm5 : 5 ∈ cL := mem_cL.mpr (Or.inl (by omega))
theorem cE_5 : cE cy A aK σ 5 = .inl (cy 3, 4, .inr (.inr (.inr (.inr (fun i => some (A (20 + i))))))) := by rw [cE_s _ _ _ _ (by omega)]; rfl
theorem cm6 : 6 ∈ cL := mem_cL.mpr (Or.inl (by omega))
theorem cE_6 : cE cy A aK σ 6 = .inl (cy 2, 4, .inl (gr σ 6)) := by rw [cE_s _ _ _ _ (by omega)]; rfl
theorem cm7 : 7 ∈ cL := mem_cL.mpr (Or.inl (by omega))
theorem cE_7 : cE cy A aK σ 7 = .inr (5, [.ref (A 1), .ref (A (gp σ 57)), .ref (A (gp σ 58)), .int (gi σ 59)]) := by rw [cE_s _ _ _ _ (by omega)]; rfl
theorem cm8 : 8 ∈ cL := mem_cL.mpr (Or.inl (by omega))
theorem cE_8 : cE cy A aK σ 8 = .inl (cy 0, 3200, .inl (gr σ 8)) := by rw [cE_s _ _ _ _ (by omega)]; rfl
theorem cm9 : 9 ∈ cL := mem_cL.mpr (Or.inl (by omega))
theorem cE_9 : cE cy A aK σ 9 = .inl (cy 0, 3200, .inl (gr σ 9)) := by rw [cE_s _ _ _ _ (by omega)]; rfl
theorem cm10 : 10 ∈ cL := mem_cL.mpr (Or.inl (by omega))
theorem cE_10 : cE cy A aK σ 10 = .inr (6, [.ref (A 11), .int (gi σ 81), .int (gi σ 82), .int (gi σ 83)]) := by rw [cE_s _ _ _ _ (by omega)]; rfl
theorem cm11 : 11 ∈ cL := mem_cL.mpr (Or.inl (by omega))
theorem cE_11 : cE cy A aK σ 11 = .inl (cy 1, 400, .inl (gr σ 11)) := by rw [cE_s _ _ _ _ (by omega)]; rfl
theorem cm12 : 12 ∈ cL := mem_cL.mpr (Or.inl (by omega))
theorem cE_12 : cE cy A aK σ 12 = .inr (2, [.ref (A 10), .ref (A 13), .int (gi σ 98)]) := by rw [cE_s _ _ _ _ (by omega)]; rfl
theorem cm13 : 13 ∈ cL := mem_cL.mpr (Or.inl (by omega))
theorem cE_13 : cE cy A aK σ 13 = .inl (cy 4, 50, .inr (.inr (.inr (.inr (fun i => some (A (64 + i))))))) := by rw [cE_s _ _ _ _ (by omega)]; rfl
theorem cm14 : 14 ∈ cL := mem_cL.mpr (Or.inl (by omega))
theorem cE_14 : cE cy A aK σ 14 = .inr (1, [.int (gi σ 112)]) := by rw [cE_s _ _ _ _ (by omega)]; rfl
theorem cE_sm {j : Nat} (h : ¬ ¬ (j = 8 ∨ j = 9)) : cE cy A aK σ j = .inl (cy 0, 3200, .inl (gr σ j)) := by
  rcases Classical.not_not.mp h with rfl | rfl
  · exact cE_8 cy A aK σ
  · exact cE_9 cy A aK σ
variable (f : Nat → Int32) (v : Int32)
theorem st_c2 : ∀ i ∈ cL, cE cy A aK (sr σ 2 f) i = if i = 2 then .inl (cy 0, 20000, .inl (f)) else cE cy A aK σ i := cE_sr cy A aK σ (by rw [cE_2, gr_sr, if_pos rfl])
theorem st_c3 : ∀ i ∈ cL, cE cy A aK (sr σ 3 f) i = if i = 3 then .inl (cy 0, 20000, .inl (f)) else cE cy A aK σ i := cE_sr cy A aK σ (by rw [cE_3, gr_sr, if_pos rfl])
theorem st_c6 : ∀ i ∈ cL, cE cy A aK (sr σ 6 f) i = if i = 6 then .inl (cy 2, 4, .inl (f)) else cE cy A aK σ i := cE_sr cy A aK σ (by rw [cE_6, gr_sr, if_pos rfl])
theorem st_c11 : ∀ i ∈ cL, cE cy A aK (sr σ 11 f) i = if i = 11 then .inl (cy 1, 400, .inl (f)) else cE cy A aK σ i := cE_sr cy A aK σ (by rw [cE_11, gr_sr, if_pos rfl])
theorem st_mk {j : Nat} (h : isMk j) : ∀ i ∈ cL, cE cy A aK (sr σ j f) i = if i = j then .inl (cy 0, 800, .inl f) else cE cy A aK σ i := cE_sr cy A aK σ (by rw [cE_mk cy A aK _ h, gr_sr, if_pos rfl])
theorem st_sm {j : Nat} (h : ¬ ¬ (j = 8 ∨ j = 9)) : ∀ i ∈ cL, cE cy A aK (sr σ j f) i = if i = j then .inl (cy 0, 3200, .inl f) else cE cy A aK σ i := cE_sr cy A aK σ (by rw [cE_sm cy A aK _ h, gr_sr, if_pos rfl])
theorem sf_c10 : ∀ i ∈ cL, cE cy A aK (si σ 10 v) i = if i = 1 then .inr (0, ([.ref (A 2), .ref (A 3), .int (gi σ 10)] : List Value).set 2 (.int v)) else cE cy A aK σ i := cE_si cy A aK σ (j := 1) (t := 2) (by omega) (by rw [cE_1]; rfl)
theorem sf_c59 : ∀ i ∈ cL, cE cy A aK (si σ 59 v) i = if i = 7 then .inr (5, ([.ref (A 1), .ref (A (gp σ 57)), .ref (A (gp σ 58)), .int (gi σ 59)] : List Value).set 3 (.int v)) else cE cy A aK σ i := cE_si cy A aK σ (j := 7) (t := 3) (by omega) (by rw [cE_7]; rfl)
theorem sf_c81 : ∀ i ∈ cL, cE cy A aK (si σ 81 v) i = if i = 10 then .inr (6, ([.ref (A 11), .int (gi σ 81), .int (gi σ 82), .int (gi σ 83)] : List Value).set 1 (.int v)) else cE cy A aK σ i := cE_si cy A aK σ (j := 10) (t := 1) (by omega) (by rw [cE_10]; rfl)
theorem sf_c82 : ∀ i ∈ cL, cE cy A aK (si σ 82 v) i = if i = 10 then .inr (6, ([.ref (A 11), .int (gi σ 81), .int (gi σ 82), .int (gi σ 83)] : List Value).set 2 (.int v)) else cE cy A aK σ i := cE_si cy A aK σ (j := 10) (t := 2) (by omega) (by rw [cE_10]; rfl)
theorem sf_c83 : ∀ i ∈ cL, cE cy A aK (si σ 83 v) i = if i = 10 then .inr (6, ([.ref (A 11), .int (gi σ 81), .int (gi σ 82), .int (gi σ 83)] : List Value).set 3 (.int v)) else cE cy A aK σ i := cE_si cy A aK σ (j := 10) (t := 3) (by omega) (by rw [cE_10]; rfl)
theorem sf_c98 : ∀ i ∈ cL, cE cy A aK (si σ 98 v) i = if i = 12 then .inr (2, ([.ref (A 10), .ref (A 13), .int (gi σ 98)] : List Value).set 2 (.int v)) else cE cy A aK σ i := cE_si cy A aK σ (j := 12) (t := 2) (by omega) (by rw [cE_12]; rfl)
theorem sf_c112 : ∀ i ∈ cL, cE cy A aK (si σ 112 v) i = if i = 14 then .inr (1, ([.int (gi σ 112)] : List Value).set 0 (.int v)) else cE cy A aK σ i := cE_si cy A aK σ (j := 14) (t := 0) (by omega) (by rw [cE_14]; rfl)
theorem sf_p57 (z : Nat) : ∀ i ∈ cL, cE cy A aK (sp σ 57 z) i = if i = 7 then .inr (5, ([.ref (A 1), .ref (A (gp σ 57)), .ref (A (gp σ 58)), .int (gi σ 59)] : List Value).set 1 (.ref (A z))) else cE cy A aK σ i := cE_sp cy A aK σ (j := 7) (t := 1) (by omega) (by rw [cE_7]; rfl)
theorem sf_p58 (z : Nat) : ∀ i ∈ cL, cE cy A aK (sp σ 58 z) i = if i = 7 then .inr (5, ([.ref (A 1), .ref (A (gp σ 57)), .ref (A (gp σ 58)), .int (gi σ 59)] : List Value).set 2 (.ref (A z))) else cE cy A aK σ i := cE_sp cy A aK σ (j := 7) (t := 2) (by omega) (by rw [cE_7]; rfl)
theorem sf_row {j : Nat} (h : isRow j) : ∀ i ∈ cL, cE cy A aK (si σ (8 * j + 1) v) i = if i = j then .inr (3, ([.ref (A (j + 16)), .int (gi σ (8 * j + 1))] : List Value).set 1 (.int v)) else cE cy A aK σ i := cE_si cy A aK σ (j := j) (t := 1) (by omega) (by rw [cE_row cy A aK _ h, gi_si, if_pos rfl]; rfl)
theorem sf_run1 {j : Nat} (h : isRun j) : ∀ i ∈ cL, cE cy A aK (si σ (8 * j + 1) v) i = if i = j then .inr (4, ([.ref (aK (gp σ (8 * j))), .int (gi σ (8 * j + 1)), .int (gi σ (8 * j + 2)), .int (gi σ (8 * j + 3)), .int (gi σ (8 * j + 4)), .int (gi σ (8 * j + 5))] : List Value).set 1 (.int v)) else cE cy A aK σ i := cE_si cy A aK σ (j := j) (t := 1) (by omega) (by
  rw [cE_run cy A aK _ h]
  simp only [gi_si, gp_si, if_true, if_neg (show ¬ 8 * j + 2 = 8 * j + 1 by omega), if_neg (show ¬ 8 * j + 3 = 8 * j + 1 by omega), if_neg (show ¬ 8 * j + 4 = 8 * j + 1 by omega), if_neg (show ¬ 8 * j + 5 = 8 * j + 1 by omega)]
  rfl)
theorem sf_run2 {j : Nat} (h : isRun j) : ∀ i ∈ cL, cE cy A aK (si σ (8 * j + 2) v) i = if i = j then .inr (4, ([.ref (aK (gp σ (8 * j))), .int (gi σ (8 * j + 1)), .int (gi σ (8 * j + 2)), .int (gi σ (8 * j + 3)), .int (gi σ (8 * j + 4)), .int (gi σ (8 * j + 5))] : List Value).set 2 (.int v)) else cE cy A aK σ i := cE_si cy A aK σ (j := j) (t := 2) (by omega) (by
  rw [cE_run cy A aK _ h]
  simp only [gi_si, gp_si, if_true, if_neg (show ¬ 8 * j + 1 = 8 * j + 2 by omega), if_neg (show ¬ 8 * j + 3 = 8 * j + 2 by omega), if_neg (show ¬ 8 * j + 4 = 8 * j + 2 by omega), if_neg (show ¬ 8 * j + 5 = 8 * j + 2 by omega)]
  rfl)
theorem sf_run3 {j : Nat} (h : isRun j) : ∀ i ∈ cL, cE cy A aK (si σ (8 * j + 3) v) i = if i = j then .inr (4, ([.ref (aK (gp σ (8 * j))), .int (gi σ (8 * j + 1)), .int (gi σ (8 * j + 2)), .int (gi σ (8 * j + 3)), .int (gi σ (8 * j + 4)), .int (gi σ (8 * j + 5))] : List Value).set 3 (.int v)) else cE cy A aK σ i := cE_si cy A aK σ (j := j) (t := 3) (by omega) (by
  rw [cE_run cy A aK _ h]
  simp only [gi_si, gp_si, if_true, if_neg (show ¬ 8 * j + 1 = 8 * j + 3 by omega), if_neg (show ¬ 8 * j + 2 = 8 * j + 3 by omega), if_neg (show ¬ 8 * j + 4 = 8 * j + 3 by omega), if_neg (show ¬ 8 * j + 5 = 8 * j + 3 by omega)]
  rfl)
theorem sf_run4 {j : Nat} (h : isRun j) : ∀ i ∈ cL, cE cy A aK (si σ (8 * j + 4) v) i = if i = j then .inr (4, ([.ref (aK (gp σ (8 * j))), .int (gi σ (8 * j + 1)), .int (gi σ (8 * j + 2)), .int (gi σ (8 * j + 3)), .int (gi σ (8 * j + 4)), .int (gi σ (8 * j + 5))] : List Value).set 4 (.int v)) else cE cy A aK σ i := cE_si cy A aK σ (j := j) (t := 4) (by omega) (by
  rw [cE_run cy A aK _ h]
  simp only [gi_si, gp_si, if_true, if_neg (show ¬ 8 * j + 1 = 8 * j + 4 by omega), if_neg (show ¬ 8 * j + 2 = 8 * j + 4 by omega), if_neg (show ¬ 8 * j + 3 = 8 * j + 4 by omega), if_neg (show ¬ 8 * j + 5 = 8 * j + 4 by omega)]
  rfl)
theorem sf_run5 {j : Nat} (h : isRun j) : ∀ i ∈ cL, cE cy A aK (si σ (8 * j + 5) v) i = if i = j then .inr (4, ([.ref (aK (gp σ (8 * j))), .int (gi σ (8 * j + 1)), .int (gi σ (8 * j + 2)), .int (gi σ (8 * j + 3)), .int (gi σ (8 * j + 4)), .int (gi σ (8 * j + 5))] : List Value).set 5 (.int v)) else cE cy A aK σ i := cE_si cy A aK σ (j := j) (t := 5) (by omega) (by
  rw [cE_run cy A aK _ h]
  simp only [gi_si, gp_si, if_true, if_neg (show ¬ 8 * j + 1 = 8 * j + 5 by omega), if_neg (show ¬ 8 * j + 2 = 8 * j + 5 by omega), if_neg (show ¬ 8 * j + 3 = 8 * j + 5 by omega), if_neg (show ¬ 8 * j + 4 = 8 * j + 5 by omega)]
  rfl)
theorem sf_run0 (z : Nat) {j : Nat} (h : isRun j) : ∀ i ∈ cL, cE cy A aK (sp σ (8 * j) z) i = if i = j then .inr (4, ([.ref (aK (gp σ (8 * j))), .int (gi σ (8 * j + 1)), .int (gi σ (8 * j + 2)), .int (gi σ (8 * j + 3)), .int (gi σ (8 * j + 4)), .int (gi σ (8 * j + 5))] : List Value).set 0 (.ref (aK z))) else cE cy A aK σ i := cE_sp cy A aK σ (j := j) (t := 0) (by omega) (by
  rw [cE_run cy A aK _ h]
  simp only [gi_sp, gp_sp, Nat.add_zero, if_true]
  rfl)
end CS
section MS
variable (cy : Nat → ClassId) (A : Nat → Nat) (τ : St)
theorem mm0 : 0 ∈ mLs := by decide
theorem mE_0 : mE cy A τ 0 = .inr (8, [.ref (A 1), .ref (A 2), .int (gi τ 2), .ref (A 4), .ref (A 5), .ref (A 6), .ref (A 7), .ref (A 8), .int (gi τ 8), .int (gi τ 9), .int (gi τ 10), .ref (A 12), .ref (A 13), .int (gi τ 13), .int (gi τ 14), .int (gi τ 15), .int (gi τ 16), .int (gi τ 17), .ref (A 19), .ref (A 20), .ref (A 21), .ref (A 22), .ref (A 23), .ref (A 24), .int (gi τ 24), .ref (A 26), .ref (A 27)]) := rfl
theorem mm1 : 1 ∈ mLs := by decide
theorem mE_1 : mE cy A τ 1 = .inl (cy 0, 20000, .inl (gr τ 1)) := rfl
theorem mm2 : 2 ∈ mLs := by decide
theorem mE_2 : mE cy A τ 2 = .inl (cy 0, 20000, .inl (gr τ 2)) := rfl
theorem mm4 : 4 ∈ mLs := by decide
theorem mE_4 : mE cy A τ 4 = .inl (cy 0, 3200, .inl (gr τ 4)) := rfl
theorem mm5 : 5 ∈ mLs := by decide
theorem mE_5 : mE cy A τ 5 = .inl (cy 0, 3200, .inl (gr τ 5)) := rfl
theorem mm6 : 6 ∈ mLs := by decide
theorem mE_6 : mE cy A τ 6 = .inl (cy 0, 4, .inl (gr τ 6)) := rfl
theorem mm7 : 7 ∈ mLs := by decide
theorem mE_7 : mE cy A τ 7 = .inl (cy 0, 4, .inl (gr τ 7)) := rfl
theorem mm8 : 8 ∈ mLs := by decide
theorem mE_8 : mE cy A τ 8 = .inl (cy 0, 400, .inl (gr τ 8)) := rfl
theorem mm12 : 12 ∈ mLs := by decide
theorem mE_12 : mE cy A τ 12 = .inl (cy 0, 3200, .inl (gr τ 12)) := rfl
theorem mm13 : 13 ∈ mLs := by decide
theorem mE_13 : mE cy A τ 13 = .inl (cy 0, 3200, .inl (gr τ 13)) := rfl
theorem mm19 : 19 ∈ mLs := by decide
theorem mE_19 : mE cy A τ 19 = .inl (cy 0, 80, .inl (gr τ 19)) := rfl
theorem mm20 : 20 ∈ mLs := by decide
theorem mE_20 : mE cy A τ 20 = .inl (cy 0, 80, .inl (gr τ 20)) := rfl
theorem mm21 : 21 ∈ mLs := by decide
theorem mE_21 : mE cy A τ 21 = .inl (cy 0, 80, .inl (gr τ 21)) := rfl
theorem mm22 : 22 ∈ mLs := by decide
theorem mE_22 : mE cy A τ 22 = .inl (cy 0, 80, .inl (gr τ 22)) := rfl
theorem mm23 : 23 ∈ mLs := by decide
theorem mE_23 : mE cy A τ 23 = .inl (cy 0, 80, .inl (gr τ 23)) := rfl
theorem mm24 : 24 ∈ mLs := by decide
theorem mE_24 : mE cy A τ 24 = .inl (cy 0, 80, .inl (gr τ 24)) := rfl
theorem mm26 : 26 ∈ mLs := by decide
theorem mE_26 : mE cy A τ 26 = .inl (cy 2, 800, .inl (gr τ 26)) := rfl
theorem mm27 : 27 ∈ mLs := by decide
theorem mE_27 : mE cy A τ 27 = .inl (cy 0, 800, .inl (gr τ 27)) := rfl
variable (f : Nat → Int32) (v : Int32)
theorem sm_a1 : ∀ i ∈ mLs, mE cy A (sr τ 1 f) i = if i = 1 then .inl (cy 0, 20000, .inl f) else mE cy A τ i := mE_sr cy A τ (by decide) (by rw [mE_1, gr_sr, if_pos rfl])
theorem sm_a2 : ∀ i ∈ mLs, mE cy A (sr τ 2 f) i = if i = 2 then .inl (cy 0, 20000, .inl f) else mE cy A τ i := mE_sr cy A τ (by decide) (by rw [mE_2, gr_sr, if_pos rfl])
theorem sm_a4 : ∀ i ∈ mLs, mE cy A (sr τ 4 f) i = if i = 4 then .inl (cy 0, 3200, .inl f) else mE cy A τ i := mE_sr cy A τ (by decide) (by rw [mE_4, gr_sr, if_pos rfl])
theorem sm_a5 : ∀ i ∈ mLs, mE cy A (sr τ 5 f) i = if i = 5 then .inl (cy 0, 3200, .inl f) else mE cy A τ i := mE_sr cy A τ (by decide) (by rw [mE_5, gr_sr, if_pos rfl])
theorem sm_a6 : ∀ i ∈ mLs, mE cy A (sr τ 6 f) i = if i = 6 then .inl (cy 0, 4, .inl f) else mE cy A τ i := mE_sr cy A τ (by decide) (by rw [mE_6, gr_sr, if_pos rfl])
theorem sm_a7 : ∀ i ∈ mLs, mE cy A (sr τ 7 f) i = if i = 7 then .inl (cy 0, 4, .inl f) else mE cy A τ i := mE_sr cy A τ (by decide) (by rw [mE_7, gr_sr, if_pos rfl])
theorem sm_a8 : ∀ i ∈ mLs, mE cy A (sr τ 8 f) i = if i = 8 then .inl (cy 0, 400, .inl f) else mE cy A τ i := mE_sr cy A τ (by decide) (by rw [mE_8, gr_sr, if_pos rfl])
theorem sm_a12 : ∀ i ∈ mLs, mE cy A (sr τ 12 f) i = if i = 12 then .inl (cy 0, 3200, .inl f) else mE cy A τ i := mE_sr cy A τ (by decide) (by rw [mE_12, gr_sr, if_pos rfl])
theorem sm_a13 : ∀ i ∈ mLs, mE cy A (sr τ 13 f) i = if i = 13 then .inl (cy 0, 3200, .inl f) else mE cy A τ i := mE_sr cy A τ (by decide) (by rw [mE_13, gr_sr, if_pos rfl])
theorem sm_a19 : ∀ i ∈ mLs, mE cy A (sr τ 19 f) i = if i = 19 then .inl (cy 0, 80, .inl f) else mE cy A τ i := mE_sr cy A τ (by decide) (by rw [mE_19, gr_sr, if_pos rfl])
theorem sm_a20 : ∀ i ∈ mLs, mE cy A (sr τ 20 f) i = if i = 20 then .inl (cy 0, 80, .inl f) else mE cy A τ i := mE_sr cy A τ (by decide) (by rw [mE_20, gr_sr, if_pos rfl])
theorem sm_a21 : ∀ i ∈ mLs, mE cy A (sr τ 21 f) i = if i = 21 then .inl (cy 0, 80, .inl f) else mE cy A τ i := mE_sr cy A τ (by decide) (by rw [mE_21, gr_sr, if_pos rfl])
theorem sm_a22 : ∀ i ∈ mLs, mE cy A (sr τ 22 f) i = if i = 22 then .inl (cy 0, 80, .inl f) else mE cy A τ i := mE_sr cy A τ (by decide) (by rw [mE_22, gr_sr, if_pos rfl])
theorem sm_a23 : ∀ i ∈ mLs, mE cy A (sr τ 23 f) i = if i = 23 then .inl (cy 0, 80, .inl f) else mE cy A τ i := mE_sr cy A τ (by decide) (by rw [mE_23, gr_sr, if_pos rfl])
theorem sm_a24 : ∀ i ∈ mLs, mE cy A (sr τ 24 f) i = if i = 24 then .inl (cy 0, 80, .inl f) else mE cy A τ i := mE_sr cy A τ (by decide) (by rw [mE_24, gr_sr, if_pos rfl])
theorem sm_a26 : ∀ i ∈ mLs, mE cy A (sr τ 26 f) i = if i = 26 then .inl (cy 2, 800, .inl f) else mE cy A τ i := mE_sr cy A τ (by decide) (by rw [mE_26, gr_sr, if_pos rfl])
theorem sm_a27 : ∀ i ∈ mLs, mE cy A (sr τ 27 f) i = if i = 27 then .inl (cy 0, 800, .inl f) else mE cy A τ i := mE_sr cy A τ (by decide) (by rw [mE_27, gr_sr, if_pos rfl])
theorem sm_2 : ∀ i ∈ mLs, mE cy A (si τ 2 v) i = if i = 0 then .inr (8, ([.ref (A 1), .ref (A 2), .int (gi τ 2), .ref (A 4), .ref (A 5), .ref (A 6), .ref (A 7), .ref (A 8), .int (gi τ 8), .int (gi τ 9), .int (gi τ 10), .ref (A 12), .ref (A 13), .int (gi τ 13), .int (gi τ 14), .int (gi τ 15), .int (gi τ 16), .int (gi τ 17), .ref (A 19), .ref (A 20), .ref (A 21), .ref (A 22), .ref (A 23), .ref (A 24), .int (gi τ 24), .ref (A 26), .ref (A 27)] : List Value).set 2 (.int v)) else mE cy A τ i := mE_si cy A τ (by rw [mE_0]; rfl)
theorem sm_8 : ∀ i ∈ mLs, mE cy A (si τ 8 v) i = if i = 0 then .inr (8, ([.ref (A 1), .ref (A 2), .int (gi τ 2), .ref (A 4), .ref (A 5), .ref (A 6), .ref (A 7), .ref (A 8), .int (gi τ 8), .int (gi τ 9), .int (gi τ 10), .ref (A 12), .ref (A 13), .int (gi τ 13), .int (gi τ 14), .int (gi τ 15), .int (gi τ 16), .int (gi τ 17), .ref (A 19), .ref (A 20), .ref (A 21), .ref (A 22), .ref (A 23), .ref (A 24), .int (gi τ 24), .ref (A 26), .ref (A 27)] : List Value).set 8 (.int v)) else mE cy A τ i := mE_si cy A τ (by rw [mE_0]; rfl)
theorem sm_9 : ∀ i ∈ mLs, mE cy A (si τ 9 v) i = if i = 0 then .inr (8, ([.ref (A 1), .ref (A 2), .int (gi τ 2), .ref (A 4), .ref (A 5), .ref (A 6), .ref (A 7), .ref (A 8), .int (gi τ 8), .int (gi τ 9), .int (gi τ 10), .ref (A 12), .ref (A 13), .int (gi τ 13), .int (gi τ 14), .int (gi τ 15), .int (gi τ 16), .int (gi τ 17), .ref (A 19), .ref (A 20), .ref (A 21), .ref (A 22), .ref (A 23), .ref (A 24), .int (gi τ 24), .ref (A 26), .ref (A 27)] : List Value).set 9 (.int v)) else mE cy A τ i := mE_si cy A τ (by rw [mE_0]; rfl)
theorem sm_10 : ∀ i ∈ mLs, mE cy A (si τ 10 v) i = if i = 0 then .inr (8, ([.ref (A 1), .ref (A 2), .int (gi τ 2), .ref (A 4), .ref (A 5), .ref (A 6), .ref (A 7), .ref (A 8), .int (gi τ 8), .int (gi τ 9), .int (gi τ 10), .ref (A 12), .ref (A 13), .int (gi τ 13), .int (gi τ 14), .int (gi τ 15), .int (gi τ 16), .int (gi τ 17), .ref (A 19), .ref (A 20), .ref (A 21), .ref (A 22), .ref (A 23), .ref (A 24), .int (gi τ 24), .ref (A 26), .ref (A 27)] : List Value).set 10 (.int v)) else mE cy A τ i := mE_si cy A τ (by rw [mE_0]; rfl)
theorem sm_13 : ∀ i ∈ mLs, mE cy A (si τ 13 v) i = if i = 0 then .inr (8, ([.ref (A 1), .ref (A 2), .int (gi τ 2), .ref (A 4), .ref (A 5), .ref (A 6), .ref (A 7), .ref (A 8), .int (gi τ 8), .int (gi τ 9), .int (gi τ 10), .ref (A 12), .ref (A 13), .int (gi τ 13), .int (gi τ 14), .int (gi τ 15), .int (gi τ 16), .int (gi τ 17), .ref (A 19), .ref (A 20), .ref (A 21), .ref (A 22), .ref (A 23), .ref (A 24), .int (gi τ 24), .ref (A 26), .ref (A 27)] : List Value).set 13 (.int v)) else mE cy A τ i := mE_si cy A τ (by rw [mE_0]; rfl)
theorem sm_14 : ∀ i ∈ mLs, mE cy A (si τ 14 v) i = if i = 0 then .inr (8, ([.ref (A 1), .ref (A 2), .int (gi τ 2), .ref (A 4), .ref (A 5), .ref (A 6), .ref (A 7), .ref (A 8), .int (gi τ 8), .int (gi τ 9), .int (gi τ 10), .ref (A 12), .ref (A 13), .int (gi τ 13), .int (gi τ 14), .int (gi τ 15), .int (gi τ 16), .int (gi τ 17), .ref (A 19), .ref (A 20), .ref (A 21), .ref (A 22), .ref (A 23), .ref (A 24), .int (gi τ 24), .ref (A 26), .ref (A 27)] : List Value).set 14 (.int v)) else mE cy A τ i := mE_si cy A τ (by rw [mE_0]; rfl)
theorem sm_15 : ∀ i ∈ mLs, mE cy A (si τ 15 v) i = if i = 0 then .inr (8, ([.ref (A 1), .ref (A 2), .int (gi τ 2), .ref (A 4), .ref (A 5), .ref (A 6), .ref (A 7), .ref (A 8), .int (gi τ 8), .int (gi τ 9), .int (gi τ 10), .ref (A 12), .ref (A 13), .int (gi τ 13), .int (gi τ 14), .int (gi τ 15), .int (gi τ 16), .int (gi τ 17), .ref (A 19), .ref (A 20), .ref (A 21), .ref (A 22), .ref (A 23), .ref (A 24), .int (gi τ 24), .ref (A 26), .ref (A 27)] : List Value).set 15 (.int v)) else mE cy A τ i := mE_si cy A τ (by rw [mE_0]; rfl)
theorem sm_16 : ∀ i ∈ mLs, mE cy A (si τ 16 v) i = if i = 0 then .inr (8, ([.ref (A 1), .ref (A 2), .int (gi τ 2), .ref (A 4), .ref (A 5), .ref (A 6), .ref (A 7), .ref (A 8), .int (gi τ 8), .int (gi τ 9), .int (gi τ 10), .ref (A 12), .ref (A 13), .int (gi τ 13), .int (gi τ 14), .int (gi τ 15), .int (gi τ 16), .int (gi τ 17), .ref (A 19), .ref (A 20), .ref (A 21), .ref (A 22), .ref (A 23), .ref (A 24), .int (gi τ 24), .ref (A 26), .ref (A 27)] : List Value).set 16 (.int v)) else mE cy A τ i := mE_si cy A τ (by rw [mE_0]; rfl)
theorem sm_17 : ∀ i ∈ mLs, mE cy A (si τ 17 v) i = if i = 0 then .inr (8, ([.ref (A 1), .ref (A 2), .int (gi τ 2), .ref (A 4), .ref (A 5), .ref (A 6), .ref (A 7), .ref (A 8), .int (gi τ 8), .int (gi τ 9), .int (gi τ 10), .ref (A 12), .ref (A 13), .int (gi τ 13), .int (gi τ 14), .int (gi τ 15), .int (gi τ 16), .int (gi τ 17), .ref (A 19), .ref (A 20), .ref (A 21), .ref (A 22), .ref (A 23), .ref (A 24), .int (gi τ 24), .ref (A 26), .ref (A 27)] : List Value).set 17 (.int v)) else mE cy A τ i := mE_si cy A τ (by rw [mE_0]; rfl)
theorem sm_24 : ∀ i ∈ mLs, mE cy A (si τ 24 v) i = if i = 0 then .inr (8, ([.ref (A 1), .ref (A 2), .int (gi τ 2), .ref (A 4), .ref (A 5), .ref (A 6), .ref (A 7), .ref (A 8), .int (gi τ 8), .int (gi τ 9), .int (gi τ 10), .ref (A 12), .ref (A 13), .int (gi τ 13), .int (gi τ 14), .int (gi τ 15), .int (gi τ 16), .int (gi τ 17), .ref (A 19), .ref (A 20), .ref (A 21), .ref (A 22), .ref (A 23), .ref (A 24), .int (gi τ 24), .ref (A 26), .ref (A 27)] : List Value).set 24 (.int v)) else mE cy A τ i := mE_si cy A τ (by rw [mE_0]; rfl)
end MS
