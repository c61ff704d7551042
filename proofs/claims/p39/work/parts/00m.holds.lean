/-! one Row as a list, the check of the theorem -/
section L2
variable {a : AS} {σ : St}
/-- what may change on the class's side: the table and the two copies -/
def erC (σ σ' : St) : Prop := (∀ k, k ≠ 59 → k ≠ 193 → k ≠ 201 → gi σ' k = gi σ k) ∧ (∀ k, k ≠ 57 → k ≠ 58 → gp σ' k = gp σ k) ∧ ∀ i, i ≠ 8 → i ≠ 9 → i ≠ 40 → i ≠ 41 → gr σ' i = gr σ i
theorem erC.trans {σ σ' σ2 : St} (h : erC σ σ') (h2 : erC σ' σ2) : erC σ σ2 := ⟨fun k a b c => (h2.1 k a b c).trans (h.1 k a b c), fun k a b => (h2.2.1 k a b).trans (h.2.1 k a b), fun i a b c d => (h2.2.2 i a b c d).trans (h.2.2 i a b c d)⟩
/-- the Row j holds the list -/
def cR (j : Nat) (L : List Int32) (σ : St) : Prop := gi σ (8 * j + 1) = nI L.length ∧ seg (gr σ (j + 16)) 0 L.length = L
def vl (a : AS) (L : List Int32) : Prop := ∀ x, x ∈ L → ∃ i, i < an a 0 ∧ x = nI i
theorem vl.is {key : Int32 → Int} {L : List Int32} (h : vl a L) : vl a (isrt key L) := fun x hx => h x (isrt_mem hx)
theorem seg_of {f : Nat → Int32} {L : List Int32} (h : seg f 0 L.length = L) {q : Nat} (hq : q < L.length) : L[q]? = some (f q) := by
  have := seg_get f L.length 0 q hq
  rw [h, Nat.zero_add] at this
  exact this
theorem cR.at {j : Nat} {L : List Int32} (h : cR j L σ) (hv : vl a L) {q : Nat} (hq : q < L.length) : ∃ i, i < an a 0 ∧ gr σ (j + 16) q = nI i := hv _ (List.mem_of_getElem? (seg_of h.2 hq))
/-- a copy takes over a row -/
theorem bec_st {j i2 s : Nat} {L : List Int32} (hj : j = 24 ∨ j = 25) (hi : i2 ≠ j) (hs : gi σ (8 * j + 1) = nI s) (hs8 : s ≤ 800) (hL : L.length ≤ 800) (hR : cR i2 L σ) :
    ∃ c σ', f_X6_become j i2 σ = some (nI c, σ') ∧ erC σ σ' ∧ cR j L σ' ∧ (∀ j2 L2, j2 ≠ j → cR j2 L2 σ → cR j2 L2 σ') ∧ (∀ m m', SO σ m m' → SO σ' m m') ∧ (cR j L σ → c = 0) ∧ ∀ k, k ≠ 8 * j + 1 → gi σ' k = gi σ k := by
  refine ⟨_, _, become_eq hs hR.1 hs8 hL, ⟨fun k h1 h2 h3 => ?_, fun k _ _ => rfl, fun i h1 h2 h3 h4 => ?_⟩, ⟨gi_si_e _ _ rfl, ?_⟩, fun j2 L2 hne h2 => ⟨?_, ?_⟩, fun m m' h => ⟨h.1, h.2.1, h.2.2⟩, fun h => ?_, fun k hk => gi_si_n _ _ hk⟩
  · rw [gi_si_n _ _ (by omega)]; rfl
  · rw [gr_si, gr_sr_n _ _ (by omega)]
  · rw [gr_si, gr_sr_e _ _ rfl]
    have e := hR.2
    refine Eq.trans (seg_congr fun k hk => ?_) e
    rw [cpy_i _ _ (by omega) (by omega)]
    congr 1; omega
  · rw [gi_si_n _ _ (by omega)]; exact h2.1
  · rw [gr_si, gr_sr_n _ _ (by omega)]; exact h2.2
  · have e : nI s = nI L.length := hs.symm.trans h.1
    rw [nq_inj (by omega) (by omega)] at e
    subst e
    rw [Nat.max_self, Nat.min_self, Nat.sub_self, Nat.zero_add]
    refine dif_0 fun k hk => ?_
    have e1 := seg_of h.2 hk
    have e2 := seg_of hR.2 hk
    rw [e1] at e2
    exact Option.some.inj e2
/-- a copy is sorted -/
theorem arr_st (hm : an a 0 ≤ 20000) {t : Nat} (ht : t < 4) {j n : Nat} {L : List Int32} (hj : j = 24 ∨ j = 25) (hn : L.length = n) (hL : L.length ≤ 800) (hv : vl a L) (hC : CD a σ) (hS : ∃ m m', SO σ m m') (hR : cR j L σ) :
    ∃ c σ', f_X10_arrangePart j (nI 0) (nI n) (oNo t) σ = some (nI c, σ') ∧ erC σ σ' ∧ cR j (isrt (ky a t) L) σ' ∧ (∀ j2 L2, j2 = 24 ∨ j2 = 25 → j2 ≠ j → cR j2 L2 σ → cR j2 L2 σ') ∧ (∃ m m', SO σ' m m') ∧ (isrt (ky a t) L = L → c = 0) ∧ ∀ k, k ≠ 59 → gi σ' k = gi σ k := by
  obtain ⟨m, m', hS⟩ := hS
  obtain ⟨σ', k1, b1, b2, ⟨M, M', b3⟩, b4, b5⟩ := arrPart_eq hm ht hC (j := j) (p := 0) (e := L.length) (by omega) (by omega) hL hS (fun q _ hq => hR.at hv hq)
  rw [Nat.sub_zero, hR.2] at k1 b4
  have hl := isrt_len (ky a t) L
  refine ⟨dif (fun k => gr σ (j + 16) (0 + k)) (fun k => wr (gr σ (j + 16)) 0 (isrt (ky a t) L) (0 + k)) L.length, σ', ?_, ⟨fun k h1 h2 h3 => b1 k h1, b2, fun i h1 h2 h3 h4 => b5 i h1 h2 (by omega)⟩, ⟨?_, ?_⟩, fun j2 L2 hj2 hne h2 => ⟨?_, ?_⟩, ⟨M, M', b3⟩, fun h => ?_, b1⟩
  · subst hn; exact k1
  · rw [b1 _ (by omega), hl]; exact hR.1
  · rw [b4]; exact seg_wr _ _ _
  · rw [b1 _ (by omega)]; exact h2.1
  · rw [b5 _ (by omega) (by omega) (by omega)]; exact h2.2
  · rw [h]
    refine dif_0 fun k hk => ?_
    exact (wr_in _ (Nat.zero_le _) (by rw [Nat.sub_zero, Nat.zero_add]; exact seg_of hR.2 hk)).symm
/-- a sorted copy rises -/
theorem starts_s (hm : an a 0 ≤ 20000) {j : Nat} {L : List Int32} (hL : L.length ≤ 800) (hv : vl a L) (hC : CD a σ) (hR : cR j L σ) (hs : sortedK (ky a 0) L) {k : Nat} (hk : k + 1 < L.length) : f_X10_startsRun j (nI (k + 1)) σ = some (nI 0) := by
  obtain ⟨i, hi, ei⟩ := hR.at hv hk
  obtain ⟨i2, hi2, ei2⟩ := hR.at hv (show k < L.length by omega)
  have f1 : f_X10_firstAt j (nI (k + 1)) σ = some (ai a 0 i) := by
    unfold f_X10_firstAt; simp (disch := omega) only [↓bnd_s, ↓bnd2_s, ↓bnd3_s, ↓bnd4_s, ↓bnd5_s, ↓bndR_l, ↓bndR_r, ↓bndX_l, ↓bndX_r, ↓bndQ_s, ↓bndQ2_s, bndQ_s, bndQ2_s, bnd_s, bnd2_s, bnd3_s, bnd4_s, bnd5_s, bndR_l, bndR_r, bndX_l, bndX_r, nq_lt, nq_le, nq_inj, nq_add, nq_mul, nq_sub, nq_div, nq_neg1, nq_clamp, nq_ne1, nq_le1, ne1_lt, n1_lt0, n1_lt, n1_ne, nz0, nz1, nz2, nz3, nz4, nz5, nz6, nz8, nz10, nz31, nz32, nz50, nz400, nz800, nz3200, nz20000, nlt_f, nlt_t, nle_f, nle_t, neq_f, neq_t, gi_si_e, gi_si_n, gp_sp_e, gp_sp_n, gr_sr_e, gr_sr_n, gi_sp, gi_sr, gp_si, gp_sr, gr_si, gr_sp, upd_e, upd_n, un_e, un_n, an_sn_e, an_sn_n, an_sm, an_sv, am_sn, am_sm_e, am_sm_n, am_sv, ai_sn, ai_sm, ai_sv_e, ai_sv_n, reduceIte, or_false, false_or, or_true, true_or, or_self, and_true, true_and, and_false, false_and, not_true_eq_false, not_false_eq_true, ei, hC.first hm hi]
  have f2 : f_X10_firstAt j (nI k) σ = some (ai a 0 i2) := by
    unfold f_X10_firstAt; simp (disch := omega) only [↓bnd_s, ↓bnd2_s, ↓bnd3_s, ↓bnd4_s, ↓bnd5_s, ↓bndR_l, ↓bndR_r, ↓bndX_l, ↓bndX_r, ↓bndQ_s, ↓bndQ2_s, bndQ_s, bndQ2_s, bnd_s, bnd2_s, bnd3_s, bnd4_s, bnd5_s, bndR_l, bndR_r, bndX_l, bndX_r, nq_lt, nq_le, nq_inj, nq_add, nq_mul, nq_sub, nq_div, nq_neg1, nq_clamp, nq_ne1, nq_le1, ne1_lt, n1_lt0, n1_lt, n1_ne, nz0, nz1, nz2, nz3, nz4, nz5, nz6, nz8, nz10, nz31, nz32, nz50, nz400, nz800, nz3200, nz20000, nlt_f, nlt_t, nle_f, nle_t, neq_f, neq_t, gi_si_e, gi_si_n, gp_sp_e, gp_sp_n, gr_sr_e, gr_sr_n, gi_sp, gi_sr, gp_si, gp_sr, gr_si, gr_sp, upd_e, upd_n, un_e, un_n, an_sn_e, an_sn_n, an_sm, an_sv, am_sn, am_sm_e, am_sm_n, am_sv, ai_sn, ai_sm, ai_sv_e, ai_sv_n, reduceIte, or_false, false_or, or_true, true_or, or_self, and_true, true_and, and_false, false_and, not_true_eq_false, not_false_eq_true, ei2, hC.first hm hi2]
  have h1 : ky a 0 (gr σ (j + 16) k) ≤ ky a 0 (gr σ (j + 16) (k + 1)) := sk_get (n := L.length) (by rw [hR.2]; exact hs) (by omega) hk
  rw [ei, ei2] at h1
  unfold ky at h1
  rw [if_pos rfl, if_pos rfl, nq_clamp (by omega), nq_clamp (by omega)] at h1
  have h2 : ai a 0 i2 ≤ ai a 0 i := Int32.le_iff_toInt_le.mpr h1
  unfold f_X10_startsRun
  simp (disch := omega) only [↓bnd_s, ↓bnd2_s, ↓bnd3_s, ↓bnd4_s, ↓bnd5_s, ↓bndR_l, ↓bndR_r, ↓bndX_l, ↓bndX_r, ↓bndQ_s, ↓bndQ2_s, bndQ_s, bndQ2_s, bnd_s, bnd2_s, bnd3_s, bnd4_s, bnd5_s, bndR_l, bndR_r, bndX_l, bndX_r, nq_lt, nq_le, nq_inj, nq_add, nq_mul, nq_sub, nq_div, nq_neg1, nq_clamp, nq_ne1, nq_le1, ne1_lt, n1_lt0, n1_lt, n1_ne, nz0, nz1, nz2, nz3, nz4, nz5, nz6, nz8, nz10, nz31, nz32, nz50, nz400, nz800, nz3200, nz20000, nlt_f, nlt_t, nle_f, nle_t, neq_f, neq_t, gi_si_e, gi_si_n, gp_sp_e, gp_sp_n, gr_sr_e, gr_sr_n, gi_sp, gi_sr, gp_si, gp_sr, gr_si, gr_sp, upd_e, upd_n, un_e, un_n, an_sn_e, an_sn_n, an_sm, an_sv, am_sn, am_sm_e, am_sm_n, am_sv, ai_sn, ai_sm, ai_sv_e, ai_sv_n, reduceIte, or_false, false_or, or_true, true_or, or_self, and_true, true_and, and_false, false_and, not_true_eq_false, not_false_eq_true, f1, Nat.add_sub_cancel, f2, h2]
theorem runs_s (hm : an a 0 ≤ 20000) {j : Nat} {L : List Int32} (hL : L.length ≤ 800) (hv : vl a L) (hC : CD a σ) (hR : cR j L σ) (hs : sortedK (ky a 0) L) : ∀ (d : Nat) {fu i : Nat}, L.length - (i + 1) = d → d < fu → i + 1 ≤ L.length → f_X10_numberOfRuns_L4 j σ fu (nI 1) (nI (i + 1)) = some (nI 1) := by
  intro d
  induction d with
  | zero =>
    intro fu i hd hf hi
    obtain ⟨fu, rfl⟩ : ∃ f, fu = f + 1 := ⟨fu - 1, by omega⟩
    unfold f_X10_numberOfRuns_L4; simp (disch := omega) only [↓bnd_s, ↓bnd2_s, ↓bnd3_s, ↓bnd4_s, ↓bnd5_s, ↓bndR_l, ↓bndR_r, ↓bndX_l, ↓bndX_r, ↓bndQ_s, ↓bndQ2_s, bndQ_s, bndQ2_s, bnd_s, bnd2_s, bnd3_s, bnd4_s, bnd5_s, bndR_l, bndR_r, bndX_l, bndX_r, nq_lt, nq_le, nq_inj, nq_add, nq_mul, nq_sub, nq_div, nq_neg1, nq_clamp, nq_ne1, nq_le1, ne1_lt, n1_lt0, n1_lt, n1_ne, nz0, nz1, nz2, nz3, nz4, nz5, nz6, nz8, nz10, nz31, nz32, nz50, nz400, nz800, nz3200, nz20000, nlt_f, nlt_t, nle_f, nle_t, neq_f, neq_t, gi_si_e, gi_si_n, gp_sp_e, gp_sp_n, gr_sr_e, gr_sr_n, gi_sp, gi_sr, gp_si, gp_sr, gr_si, gr_sp, upd_e, upd_n, un_e, un_n, an_sn_e, an_sn_n, an_sm, an_sv, am_sn, am_sm_e, am_sm_n, am_sv, ai_sn, ai_sm, ai_sv_e, ai_sv_n, reduceIte, or_false, false_or, or_true, true_or, or_self, and_true, true_and, and_false, false_and, not_true_eq_false, not_false_eq_true, hR.1]
  | succ d ih =>
    intro fu i hd hf hi
    obtain ⟨fu, rfl⟩ : ∃ f, fu = f + 1 := ⟨fu - 1, by omega⟩
    have := ih (fu := fu) (i := i + 1) (by omega) (by omega) (by omega)
    have e1 := starts_s hm hL hv hC hR hs (k := i) (by omega)
    unfold f_X10_numberOfRuns_L4; simp (disch := omega) only [↓bnd_s, ↓bnd2_s, ↓bnd3_s, ↓bnd4_s, ↓bnd5_s, ↓bndR_l, ↓bndR_r, ↓bndX_l, ↓bndX_r, ↓bndQ_s, ↓bndQ2_s, bndQ_s, bndQ2_s, bnd_s, bnd2_s, bnd3_s, bnd4_s, bnd5_s, bndR_l, bndR_r, bndX_l, bndX_r, nq_lt, nq_le, nq_inj, nq_add, nq_mul, nq_sub, nq_div, nq_neg1, nq_clamp, nq_ne1, nq_le1, ne1_lt, n1_lt0, n1_lt, n1_ne, nz0, nz1, nz2, nz3, nz4, nz5, nz6, nz8, nz10, nz31, nz32, nz50, nz400, nz800, nz3200, nz20000, nlt_f, nlt_t, nle_f, nle_t, neq_f, neq_t, gi_si_e, gi_si_n, gp_sp_e, gp_sp_n, gr_sr_e, gr_sr_n, gi_sp, gi_sr, gp_si, gp_sr, gr_si, gr_sp, upd_e, upd_n, un_e, un_n, an_sn_e, an_sn_n, an_sm, an_sv, am_sn, am_sm_e, am_sm_n, am_sv, ai_sn, ai_sm, ai_sv_e, ai_sv_n, reduceIte, or_false, false_or, or_true, true_or, or_self, and_true, true_and, and_false, false_and, not_true_eq_false, not_false_eq_true, hR.1, e1]; exact this
theorem rises_s (hm : an a 0 ≤ 20000) {j : Nat} {L : List Int32} (hL : L.length ≤ 800) (hv : vl a L) (hC : CD a σ) (hR : cR j L σ) (hs : sortedK (ky a 0) L) : f_X10_rises j σ = some (nI 1) := by
  have h1 : ∃ o, o ≤ 1 ∧ f_X10_numberOfRuns j σ = some (nI o) := by
    by_cases hz : L.length = 0
    · refine ⟨0, by omega, ?_⟩
      unfold f_X10_numberOfRuns f_X10_numberOfRuns_L4 FU; simp (disch := omega) only [↓bnd_s, ↓bnd2_s, ↓bnd3_s, ↓bnd4_s, ↓bnd5_s, ↓bndR_l, ↓bndR_r, ↓bndX_l, ↓bndX_r, ↓bndQ_s, ↓bndQ2_s, bndQ_s, bndQ2_s, bnd_s, bnd2_s, bnd3_s, bnd4_s, bnd5_s, bndR_l, bndR_r, bndX_l, bndX_r, nq_lt, nq_le, nq_inj, nq_add, nq_mul, nq_sub, nq_div, nq_neg1, nq_clamp, nq_ne1, nq_le1, ne1_lt, n1_lt0, n1_lt, n1_ne, nz0, nz1, nz2, nz3, nz4, nz5, nz6, nz8, nz10, nz31, nz32, nz50, nz400, nz800, nz3200, nz20000, nlt_f, nlt_t, nle_f, nle_t, neq_f, neq_t, gi_si_e, gi_si_n, gp_sp_e, gp_sp_n, gr_sr_e, gr_sr_n, gi_sp, gi_sr, gp_si, gp_sr, gr_si, gr_sp, upd_e, upd_n, un_e, un_n, an_sn_e, an_sn_n, an_sm, an_sv, am_sn, am_sm_e, am_sm_n, am_sv, ai_sn, ai_sm, ai_sv_e, ai_sv_n, reduceIte, or_false, false_or, or_true, true_or, or_self, and_true, true_and, and_false, false_and, not_true_eq_false, not_false_eq_true, hR.1, hz]
    · refine ⟨1, by omega, ?_⟩
      have g := runs_s hm hL hv hC hR hs _ (fu := 3999) (i := 0) rfl (by omega) (by omega)
      rw [Nat.zero_add] at g
      have e0 : f_X10_startsRun j (nI 0) σ = some (nI 1) := by unfold f_X10_startsRun; simp (disch := omega) only [↓bnd_s, ↓bnd2_s, ↓bnd3_s, ↓bnd4_s, ↓bnd5_s, ↓bndR_l, ↓bndR_r, ↓bndX_l, ↓bndX_r, ↓bndQ_s, ↓bndQ2_s, bndQ_s, bndQ2_s, bnd_s, bnd2_s, bnd3_s, bnd4_s, bnd5_s, bndR_l, bndR_r, bndX_l, bndX_r, nq_lt, nq_le, nq_inj, nq_add, nq_mul, nq_sub, nq_div, nq_neg1, nq_clamp, nq_ne1, nq_le1, ne1_lt, n1_lt0, n1_lt, n1_ne, nz0, nz1, nz2, nz3, nz4, nz5, nz6, nz8, nz10, nz31, nz32, nz50, nz400, nz800, nz3200, nz20000, nlt_f, nlt_t, nle_f, nle_t, neq_f, neq_t, gi_si_e, gi_si_n, gp_sp_e, gp_sp_n, gr_sr_e, gr_sr_n, gi_sp, gi_sr, gp_si, gp_sr, gr_si, gr_sp, upd_e, upd_n, un_e, un_n, an_sn_e, an_sn_n, an_sm, an_sv, am_sn, am_sm_e, am_sm_n, am_sv, ai_sn, ai_sm, ai_sv_e, ai_sv_n, reduceIte, or_false, false_or, or_true, true_or, or_self, and_true, true_and, and_false, false_and, not_true_eq_false, not_false_eq_true]
      unfold f_X10_numberOfRuns FU; unfold f_X10_numberOfRuns_L4; simp (disch := omega) only [↓bnd_s, ↓bnd2_s, ↓bnd3_s, ↓bnd4_s, ↓bnd5_s, ↓bndR_l, ↓bndR_r, ↓bndX_l, ↓bndX_r, ↓bndQ_s, ↓bndQ2_s, bndQ_s, bndQ2_s, bnd_s, bnd2_s, bnd3_s, bnd4_s, bnd5_s, bndR_l, bndR_r, bndX_l, bndX_r, nq_lt, nq_le, nq_inj, nq_add, nq_mul, nq_sub, nq_div, nq_neg1, nq_clamp, nq_ne1, nq_le1, ne1_lt, n1_lt0, n1_lt, n1_ne, nz0, nz1, nz2, nz3, nz4, nz5, nz6, nz8, nz10, nz31, nz32, nz50, nz400, nz800, nz3200, nz20000, nlt_f, nlt_t, nle_f, nle_t, neq_f, neq_t, gi_si_e, gi_si_n, gp_sp_e, gp_sp_n, gr_sr_e, gr_sr_n, gi_sp, gi_sr, gp_si, gp_sr, gr_si, gr_sp, upd_e, upd_n, un_e, un_n, an_sn_e, an_sn_n, an_sm, an_sv, am_sn, am_sm_e, am_sm_n, am_sv, ai_sn, ai_sm, ai_sv_e, ai_sv_n, reduceIte, or_false, false_or, or_true, true_or, or_self, and_true, true_and, and_false, false_and, not_true_eq_false, not_false_eq_true, hR.1, e0, Nat.zero_add, g]
  obtain ⟨o, ho, g⟩ := h1
  unfold f_X10_rises
  simp (disch := omega) only [↓bnd_s, ↓bnd2_s, ↓bnd3_s, ↓bnd4_s, ↓bnd5_s, ↓bndR_l, ↓bndR_r, ↓bndX_l, ↓bndX_r, ↓bndQ_s, ↓bndQ2_s, bndQ_s, bndQ2_s, bnd_s, bnd2_s, bnd3_s, bnd4_s, bnd5_s, bndR_l, bndR_r, bndX_l, bndX_r, nq_lt, nq_le, nq_inj, nq_add, nq_mul, nq_sub, nq_div, nq_neg1, nq_clamp, nq_ne1, nq_le1, ne1_lt, n1_lt0, n1_lt, n1_ne, nz0, nz1, nz2, nz3, nz4, nz5, nz6, nz8, nz10, nz31, nz32, nz50, nz400, nz800, nz3200, nz20000, nlt_f, nlt_t, nle_f, nle_t, neq_f, neq_t, gi_si_e, gi_si_n, gp_sp_e, gp_sp_n, gr_sr_e, gr_sr_n, gi_sp, gi_sr, gp_si, gp_sr, gr_si, gr_sp, upd_e, upd_n, un_e, un_n, an_sn_e, an_sn_n, an_sm, an_sv, am_sn, am_sm_e, am_sm_n, am_sv, ai_sn, ai_sm, ai_sv_e, ai_sv_n, reduceIte, or_false, false_or, or_true, true_or, or_self, and_true, true_and, and_false, false_and, not_true_eq_false, not_false_eq_true, g]
theorem CD.ef {σ' : St} (h : CD a σ) (f : erC σ σ') : CD a σ' := h.fr (f.1 10 (by decide) (by decide) (by decide)) (f.2.2 2 (by decide) (by decide) (by decide) (by decide)) (f.2.2 3 (by decide) (by decide) (by decide) (by decide))
theorem cR.ef {σ' : St} {r : Nat} {L : List Int32} (hr : r < 4) (h : cR (16 + r) L σ) (f : erC σ σ') : cR (16 + r) L σ' := by
  refine ⟨?_, ?_⟩
  · rw [f.1 _ (by omega) (by omega) (by omega)]; exact h.1
  · rw [f.2.2 _ (by omega) (by omega) (by omega) (by omega)]; exact h.2
theorem holds_eq (hm : an a 0 ≤ 20000) {r s s2 : Nat} (hr : r < 4) {L : List Int32} (hL : L.length ≤ 800) (hv : vl a L) (hC : CD a σ) (hS : ∃ m m', SO σ m m') (hR : cR (16 + r) L σ) (hs : gi σ 193 = nI s) (hs2 : gi σ 201 = nI s2) (h8 : s ≤ 800) (h82 : s2 ≤ 800) :
    ∃ σ', f_X10_theoremHolds (16 + r) σ = some (nI 1, σ') ∧ erC σ σ' ∧ (∃ m m', SO σ' m m') ∧ gi σ' 193 = nI L.length ∧ gi σ' 201 = nI L.length := by
  obtain ⟨c1, σ1, p1, e1, r1, o1, S1, -, n1⟩ := bec_st (j := 24) (i2 := 16 + r) (L := L) (Or.inl rfl) (by omega) hs h8 hL hR
  have S1 : ∃ m m', SO σ1 m m' := by obtain ⟨m, m', h⟩ := hS; exact ⟨m, m', S1 m m' h⟩
  have C1 := hC.ef e1
  obtain ⟨c2, σ2, p2, e2, r2, o2, S2, -, n2⟩ := arr_st hm (t := 0) (by omega) (Or.inl rfl) rfl hL hv C1 S1 r1
  have C2 := C1.ef e2
  have l0 := isrt_len (ky a 0) L
  have so0 : sortedK (ky a 0) (isrt (ky a 0) L) := (isrt_srt _ _ _ rfl).1
  have p3 := rises_s hm (by omega) hv.is C2 r2 so0
  obtain ⟨c4, σ4, p4, e4, r4, o4, S4, z4, n4⟩ := arr_st hm (t := 0) (by omega) (Or.inl rfl) l0 (by omega) hv.is C2 S2 r2
  have z4 := z4 (isrt_id so0)
  subst z4
  rw [isrt_id so0] at r4
  have E4 := (e1.trans e2).trans e4
  obtain ⟨c5, σ5, p5, e5, r5, o5, S5, -, n5⟩ := bec_st (j := 24) (i2 := 16 + r) (L := L) (s := L.length) (Or.inl rfl) (by omega) (by rw [← l0]; exact r4.1) hL hL (hR.ef hr E4)
  have S5 : ∃ m m', SO σ5 m m' := by obtain ⟨m, m', h⟩ := S4; exact ⟨m, m', S5 m m' h⟩
  have E5 := E4.trans e5
  obtain ⟨c6, σ6, p6, e6, r6, o6, S6, -, n6⟩ := arr_st hm (t := 2) (by omega) (Or.inl rfl) rfl hL hv (hC.ef E5) S5 r5
  have E6 := E5.trans e6
  have l2 := isrt_len (ky a 2) L
  obtain ⟨c7, σ7, p7, e7, r7, o7, S7, -, n7⟩ := arr_st hm (t := 0) (by omega) (Or.inl rfl) l2 (by omega) hv.is (hC.ef E6) S6 r6
  have E7 := E6.trans e7
  rw [both_eq] at r7
  have l3 := isrt_len (ky a 3) L
  have q2 : gi σ7 201 = nI s2 := (n7 201 (by decide)).trans ((n6 201 (by decide)).trans ((n5 201 (by decide)).trans ((n4 201 (by decide)).trans ((n2 201 (by decide)).trans ((n1 201 (by decide)).trans hs2)))))
  obtain ⟨c8, σ8, p8, e8, r8, o8, S8, -, n8⟩ := bec_st (j := 25) (i2 := 16 + r) (L := L) (Or.inr rfl) (by omega) q2 h82 hL (hR.ef hr E7)
  have S8 : ∃ m m', SO σ8 m m' := by obtain ⟨m, m', h⟩ := S7; exact ⟨m, m', S8 m m' h⟩
  have E8 := E7.trans e8
  obtain ⟨c9, σ9, p9, e9, r9, o9, S9, -, n9⟩ := arr_st hm (t := 3) (by omega) (Or.inr rfl) rfl hL hv (hC.ef E8) S8 r8
  have r9' := o9 24 _ (Or.inl rfl) (by decide) (o8 24 _ (by decide) r7)
  have E9 := E8.trans e9
  obtain ⟨cA, σA, pA, eA, rA, oA, SA, zA, nA⟩ := bec_st (j := 24) (i2 := 25) (L := isrt (ky a 3) L) (s := L.length) (Or.inl rfl) (by decide) (by rw [← l3]; exact r9'.1) hL (by omega) r9
  have zA := zA r9'
  subst zA
  have SA : ∃ m m', SO σA m m' := by obtain ⟨m, m', h⟩ := S9; exact ⟨m, m', SA m m' h⟩
  refine ⟨σA, ?_, E9.trans eA, SA, by rw [← l3]; exact rA.1, by rw [← l3]; exact (oA 25 _ (by decide) r9).1⟩
  unfold f_X10_theoremHolds
  rw [show oNo 0 = 0 from rfl] at p2 p4 p7
  rw [show oNo 2 = 1 from rfl] at p6
  rw [show oNo 3 = 2 from rfl] at p9
  simp (disch := omega) only [↓bnd_s, ↓bnd2_s, ↓bnd3_s, ↓bnd4_s, ↓bnd5_s, ↓bndR_l, ↓bndR_r, ↓bndX_l, ↓bndX_r, ↓bndQ_s, ↓bndQ2_s, bndQ_s, bndQ2_s, bnd_s, bnd2_s, bnd3_s, bnd4_s, bnd5_s, bndR_l, bndR_r, bndX_l, bndX_r, nq_lt, nq_le, nq_inj, nq_add, nq_mul, nq_sub, nq_div, nq_neg1, nq_clamp, nq_ne1, nq_le1, ne1_lt, n1_lt0, n1_lt, n1_ne, nz0, nz1, nz2, nz3, nz4, nz5, nz6, nz8, nz10, nz31, nz32, nz50, nz400, nz800, nz3200, nz20000, nlt_f, nlt_t, nle_f, nle_t, neq_f, neq_t, gi_si_e, gi_si_n, gp_sp_e, gp_sp_n, gr_sr_e, gr_sr_n, gi_sp, gi_sr, gp_si, gp_sr, gr_si, gr_sp, upd_e, upd_n, un_e, un_n, an_sn_e, an_sn_n, an_sm, an_sv, am_sn, am_sm_e, am_sm_n, am_sv, ai_sn, ai_sm, ai_sv_e, ai_sv_n, reduceIte, or_false, false_or, or_true, true_or, or_self, and_true, true_and, and_false, false_and, not_true_eq_false, not_false_eq_true, hR.1, p1, p2, p3, p4, p5, p6, p7, p8, p9, pA]
end L2
