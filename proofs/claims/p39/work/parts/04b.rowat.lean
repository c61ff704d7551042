theorem f_X10_rowAt_row {a1 : Int32} {σ : St} {j : Nat} (h : f_X10_rowAt a1 σ = some (.inr j)) : isRow j := by
  unfold f_X10_rowAt at h
  by_cases h1 : a1 < 0
  · rw [if_pos h1] at h; cases h
  · rw [if_neg h1] at h
    by_cases h2 : a1 < 4
    · rw [if_pos h2] at h
      obtain ⟨hg, h⟩ := grd_some h
      cases h
      exact isRow_r hg
    · rw [if_neg h2] at h; cases h
