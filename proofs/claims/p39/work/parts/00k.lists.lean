/-! lists of marks in a Row; sorting them; the check of the theorem -/
section L1
variable {a : AS} {σ : St}
theorem SO.or {m m' : Nat} (h : SO σ m m') : (gp σ 57 = 8 ∧ gp σ 58 = 9) ∨ (gp σ 57 = 9 ∧ gp σ 58 = 8) := by
  obtain ⟨h1, h2, h3⟩ := h
  rw [h1, h2]; exact h3
theorem isrt_mem {key : Int32 → Int} {l : List Int32} {x : Int32} (h : x ∈ isrt key l) : x ∈ l := (isrt_srt key _ l rfl).2.2.mem_iff.mp h
theorem isrt_len (key : Int32 → Int) (l : List Int32) : (isrt key l).length = l.length := (isrt_srt key _ l rfl).len
theorem wr_cases (g : Nat → Int32) (p : Nat) (l : List Int32) (q : Nat) : (wr g p l q ∈ l) ∨ (wr g p l q = g q) := by
  by_cases h : q < p ∨ p + l.length ≤ q
  · exact Or.inr (wr_out _ h)
  · have h2 : l[q - p]? = some (l[q - p]'(by omega)) := List.getElem?_eq_getElem (by omega)
    rw [wr_in _ (by omega) h2]
    exact Or.inl (List.getElem_mem _)
theorem wr_app (g : Nat → Int32) (p : Nat) : ∀ (l2 l : List Int32), wr (wr g p l) (p + l.length) l2 = wr g p (l ++ l2)
  | [], l => by rw [wr_nil, List.append_nil]
  | x :: l2, l => by
    rw [← wr_cons, wr_snoc]
    have := wr_app g p l2 (l ++ [x])
    rw [List.length_append, List.length_singleton, ← Nat.add_assoc, List.append_assoc] at this
    exact this
theorem sk_get {key : Int32 → Int} {T : Nat → Int32} {n q p : Nat} (h : sortedK key (seg T 0 n)) (hqp : q < p) (hp : p < n) : key (T q) ≤ key (T p) := by
  have h1 := List.pairwise_iff_getElem.mp h q p (by rw [seg_len]; omega) (by rw [seg_len]; omega) hqp
  have e1 := seg_get T n 0 q (by omega)
  have e2 := seg_get T n 0 p hp
  rw [List.getElem?_eq_getElem (by rw [seg_len]; omega), Nat.zero_add] at e1 e2
  rw [Option.some.inj e1, Option.some.inj e2] at h1
  exact h1
theorem seg_mem' {f : Nat → Int32} {n k : Nat} (hk : k < n) : f k ∈ seg f 0 n := by
  have := List.mem_of_getElem? (seg_get f n 0 k hk)
  rw [Nat.zero_add] at this
  exact this
theorem tabAt (hm : an a 0 ≤ 20000) {σ' : St} (hC : CD a σ') {M M' p i S : Nat} (hS : SO σ' M M') (hg : gi σ' 59 = nI S) (h32 : S ≤ 3200) (hp : p < S) (hi : i < an a 0) (e : gr σ' M p = nI i) : f_X8_firstAt (nI p) σ' = some (ai a 0 i) := by
  unfold f_X8_firstAt
  simp (disch := omega) only [↓bnd_s, ↓bnd2_s, ↓bnd3_s, ↓bnd4_s, ↓bnd5_s, ↓bndR_l, ↓bndR_r, ↓bndX_l, ↓bndX_r, ↓bndQ_s, ↓bndQ2_s, bndQ_s, bndQ2_s, bnd_s, bnd2_s, bnd3_s, bnd4_s, bnd5_s, bndR_l, bndR_r, bndX_l, bndX_r, nq_lt, nq_le, nq_inj, nq_add, nq_mul, nq_sub, nq_div, nq_neg1, nq_clamp, nq_ne1, nq_le1, ne1_lt, n1_lt0, n1_lt, n1_ne, nz0, nz1, nz2, nz3, nz4, nz5, nz6, nz8, nz10, nz31, nz32, nz50, nz400, nz800, nz3200, nz20000, nlt_f, nlt_t, nle_f, nle_t, neq_f, neq_t, gi_si_e, gi_si_n, gp_sp_e, gp_sp_n, gr_sr_e, gr_sr_n, gi_sp, gi_sr, gp_si, gp_sr, gr_si, gr_sp, upd_e, upd_n, un_e, un_n, an_sn_e, an_sn_n, an_sm, an_sv, am_sn, am_sm_e, am_sm_n, am_sv, ai_sn, ai_sm, ai_sv_e, ai_sv_n, reduceIte, or_false, false_or, or_true, true_or, or_self, and_true, true_and, and_false, false_and, not_true_eq_false, not_false_eq_true, hg, hS.1, hS.m, e, hC.first hm hi]
theorem nar0 : vp_nar .boolean (nI 0) = 0 := by decide +kernel
theorem SRT.nn {key : Int32 → Int} {l : List Int32} (h : SRT key l []) : l = [] := List.eq_nil_of_length_eq_zero h.len.symm
end L1
