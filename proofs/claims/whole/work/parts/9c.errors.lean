/-! errors: both find none -/
section ER
variable {a : AS} {σ τ : St}
/-- what may change on the class's side: the table and the two copies -/
def erC (σ σ' : St) : Prop := (∀ k, k ≠ 59 → k ≠ 193 → k ≠ 201 → gi σ' k = gi σ k) ∧ (∀ k, k ≠ 57 → k ≠ 58 → gp σ' k = gp σ k) ∧ ∀ i, i ≠ 8 → i ≠ 9 → i ≠ 40 → i ≠ 41 → gr σ' i = gr σ i
theorem erC.trans {σ σ' σ2 : St} (h : erC σ σ') (h2 : erC σ' σ2) : erC σ σ2 := ⟨fun k a b c => (h2.1 k a b c).trans (h.1 k a b c), fun k a b => (h2.2.1 k a b).trans (h.2.1 k a b), fun i a b c d => (h2.2.2 i a b c d).trans (h.2.2 i a b c d)⟩
/-- the Row j holds the list -/
def cR (j : Nat) (L : List Int32) (σ : St) : Prop := gi σ (8 * j + 1) = nI L.length ∧ seg (gr σ (j + 16)) 0 L.length = L
def vl (a : AS) (L : List Int32) : Prop := ∀ x, x ∈ L → ∃ i, i < an a 0 ∧ x = nI i
theorem vl.is {key : Int32 → Int} {L : List Int32} (h : vl a L) : vl a (isrt key L) := fun x hx => h x (isrt_mem hx)
theorem seg_of {f : Nat → Int32} {L : List Int32} (h : seg f 0 L.length = L) {q : Nat} (hq : q < L.length) : L[q]? = some (f q) := by
  have := seg_get f L.length 0 q hq
  rw [h, Nat.zero_add] at this
  exact this
theorem cR.at {j : Nat} {L : List Int32} (h : cR j L σ) (hv : vl a L) {q : Nat} (hq : q < L.length) : ∃ i, i < an a 0 ∧ gr σ (j + 16) q = nI i := hv _ (List.mem_of_getElem? (seg_of h.2 hq))
/-- a copy takes over a row -/
theorem bec_st {j i2 s : Nat} {L : List Int32} (hj : j = 24 ∨ j = 25) (hi : i2 ≠ j) (hs : gi σ (8 * j + 1) = nI s) (hs8 : s ≤ 800) (hL : L.length ≤ 800) (hR : cR i2 L σ) :
    ∃ c σ', f_X6_become j i2 σ = some (nI c, σ') ∧ erC σ σ' ∧ cR j L σ' ∧ (∀ j2 L2, j2 ≠ j → cR j2 L2 σ → cR j2 L2 σ') ∧ (∀ m m', SO σ m m' → SO σ' m m') ∧ (cR j L σ → c = 0) ∧ ∀ k, k ≠ 8 * j + 1 → gi σ' k = gi σ k := by
  refine ⟨_, _, become_eq hs hR.1 hs8 hL, ⟨fun k h1 h2 h3 => ?_, fun k _ _ => rfl, fun i h1 h2 h3 h4 => ?_⟩, ⟨gi_si_e _ _ rfl, ?_⟩, fun j2 L2 hne h2 => ⟨?_, ?_⟩, fun m m' h => ⟨h.1, h.2.1, h.2.2⟩, fun h => ?_, fun k hk => gi_si_n _ _ hk⟩
  · rw [gi_si_n _ _ (by omega)]; rfl
  · rw [gr_si, gr_sr_n _ _ (by omega)]
  · rw [gr_si, gr_sr_e _ _ rfl]
    have e := hR.2
    refine Eq.trans (seg_congr fun k hk => ?_) e
    rw [cpy_i _ _ (by omega) (by omega)]
    congr 1; omega
  · rw [gi_si_n _ _ (by omega)]; exact h2.1
  · rw [gr_si, gr_sr_n _ _ (by omega)]; exact h2.2
  · have e : nI s = nI L.length := hs.symm.trans h.1
    rw [nq_inj (by omega) (by omega)] at e
    subst e
    rw [Nat.max_self, Nat.min_self, Nat.sub_self, Nat.zero_add]
    refine dif_0 fun k hk => ?_
    have e1 := seg_of h.2 hk
    have e2 := seg_of hR.2 hk
    rw [e1] at e2
    exact Option.some.inj e2
/-- a copy is sorted -/
theorem arr_st (hm : an a 0 ≤ 20000) {t : Nat} (ht : t < 4) {j n : Nat} {L : List Int32} (hj : j = 24 ∨ j = 25) (hn : L.length = n) (hL : L.length ≤ 800) (hv : vl a L) (hC : CD a σ) (hS : ∃ m m', SO σ m m') (hR : cR j L σ) :
    ∃ c σ', f_X10_arrangePart j (nI 0) (nI n) (oNo t) σ = some (nI c, σ') ∧ erC σ σ' ∧ cR j (isrt (ky a t) L) σ' ∧ (∀ j2 L2, j2 = 24 ∨ j2 = 25 → j2 ≠ j → cR j2 L2 σ → cR j2 L2 σ') ∧ (∃ m m', SO σ' m m') ∧ (isrt (ky a t) L = L → c = 0) ∧ ∀ k, k ≠ 59 → gi σ' k = gi σ k := by
  obtain ⟨m, m', hS⟩ := hS
  obtain ⟨σ', k1, b1, b2, ⟨M, M', b3⟩, b4, b5⟩ := arrPart_eq hm ht hC (j := j) (p := 0) (e := L.length) (by omega) (by omega) hL hS (fun q _ hq => hR.at hv hq)
  rw [Nat.sub_zero, hR.2] at k1 b4
  have hl := isrt_len (ky a t) L
  refine ⟨dif (fun k => gr σ (j + 16) (0 + k)) (fun k => wr (gr σ (j + 16)) 0 (isrt (ky a t) L) (0 + k)) L.length, σ', ?_, ⟨fun k h1 h2 h3 => b1 k h1, b2, fun i h1 h2 h3 h4 => b5 i h1 h2 (by omega)⟩, ⟨?_, ?_⟩, fun j2 L2 hj2 hne h2 => ⟨?_, ?_⟩, ⟨M, M', b3⟩, fun h => ?_, b1⟩
  · subst hn; exact k1
  · rw [b1 _ (by omega), hl]; exact hR.1
  · rw [b4]; exact seg_wr _ _ _
  · rw [b1 _ (by omega)]; exact h2.1
  · rw [b5 _ (by omega) (by omega) (by omega)]; exact h2.2
  · rw [h]
    refine dif_0 fun k hk => ?_
    exact (wr_in _ (Nat.zero_le _) (by rw [Nat.sub_zero, Nat.zero_add]; exact seg_of hR.2 hk)).symm
/-- a sorted copy rises -/
theorem starts_s (hm : an a 0 ≤ 20000) {j : Nat} {L : List Int32} (hL : L.length ≤ 800) (hv : vl a L) (hC : CD a σ) (hR : cR j L σ) (hs : sortedK (ky a 0) L) {k : Nat} (hk : k + 1 < L.length) : f_X10_startsRun j (nI (k + 1)) σ = some (nI 0) := by
  obtain ⟨i, hi, ei⟩ := hR.at hv hk
  obtain ⟨i2, hi2, ei2⟩ := hR.at hv (show k < L.length by omega)
  have f1 : f_X10_firstAt j (nI (k + 1)) σ = some (ai a 0 i) := by
    unfold f_X10_firstAt; simp (disch := omega) only [↓bnd_s, ↓bnd2_s, ↓bnd3_s, ↓bnd4_s, ↓bnd5_s, ↓bndR_l, ↓bndR_r, ↓bndX_l, ↓bndX_r, bnd_s, bnd2_s, bnd3_s, bnd4_s, bnd5_s, bndR_l, bndR_r, bndX_l, bndX_r, nq_lt, nq_le, nq_inj, nq_add, nq_mul, nq_sub, nq_div, nq_neg1, nq_clamp, nq_ne1, nq_le1, ne1_lt, n1_lt0, n1_lt, n1_ne, nz0, nz1, nz2, nz3, nz4, nz5, nz6, nz8, nz10, nz31, nz32, nz50, nz400, nz800, nz3200, nz20000, nlt_f, nlt_t, nle_f, nle_t, neq_f, neq_t, gi_si_e, gi_si_n, gp_sp_e, gp_sp_n, gr_sr_e, gr_sr_n, gi_sp, gi_sr, gp_si, gp_sr, gr_si, gr_sp, upd_e, upd_n, un_e, un_n, an_sn_e, an_sn_n, an_sm, an_sv, am_sn, am_sm_e, am_sm_n, am_sv, ai_sn, ai_sm, ai_sv_e, ai_sv_n, reduceIte, or_false, false_or, or_true, true_or, or_self, and_true, true_and, and_false, false_and, not_true_eq_false, not_false_eq_true, ei, hC.first hm hi]
  have f2 : f_X10_firstAt j (nI k) σ = some (ai a 0 i2) := by
    unfold f_X10_firstAt; simp (disch := omega) only [↓bnd_s, ↓bnd2_s, ↓bnd3_s, ↓bnd4_s, ↓bnd5_s, ↓bndR_l, ↓bndR_r, ↓bndX_l, ↓bndX_r, bnd_s, bnd2_s, bnd3_s, bnd4_s, bnd5_s, bndR_l, bndR_r, bndX_l, bndX_r, nq_lt, nq_le, nq_inj, nq_add, nq_mul, nq_sub, nq_div, nq_neg1, nq_clamp, nq_ne1, nq_le1, ne1_lt, n1_lt0, n1_lt, n1_ne, nz0, nz1, nz2, nz3, nz4, nz5, nz6, nz8, nz10, nz31, nz32, nz50, nz400, nz800, nz3200, nz20000, nlt_f, nlt_t, nle_f, nle_t, neq_f, neq_t, gi_si_e, gi_si_n, gp_sp_e, gp_sp_n, gr_sr_e, gr_sr_n, gi_sp, gi_sr, gp_si, gp_sr, gr_si, gr_sp, upd_e, upd_n, un_e, un_n, an_sn_e, an_sn_n, an_sm, an_sv, am_sn, am_sm_e, am_sm_n, am_sv, ai_sn, ai_sm, ai_sv_e, ai_sv_n, reduceIte, or_false, false_or, or_true, true_or, or_self, and_true, true_and, and_false, false_and, not_true_eq_false, not_false_eq_true, ei2, hC.first hm hi2]
  have h1 : ky a 0 (gr σ (j + 16) k) ≤ ky a 0 (gr σ (j + 16) (k + 1)) := sk_get (n := L.length) (by rw [hR.2]; exact hs) (by omega) hk
  rw [ei, ei2] at h1
  unfold ky at h1
  rw [if_pos rfl, if_pos rfl, nq_clamp (by omega), nq_clamp (by omega)] at h1
  have h2 : ai a 0 i2 ≤ ai a 0 i := Int32.le_iff_toInt_le.mpr h1
  unfold f_X10_startsRun
  simp (disch := omega) only [↓bnd_s, ↓bnd2_s, ↓bnd3_s, ↓bnd4_s, ↓bnd5_s, ↓bndR_l, ↓bndR_r, ↓bndX_l, ↓bndX_r, bnd_s, bnd2_s, bnd3_s, bnd4_s, bnd5_s, bndR_l, bndR_r, bndX_l, bndX_r, nq_lt, nq_le, nq_inj, nq_add, nq_mul, nq_sub, nq_div, nq_neg1, nq_clamp, nq_ne1, nq_le1, ne1_lt, n1_lt0, n1_lt, n1_ne, nz0, nz1, nz2, nz3, nz4, nz5, nz6, nz8, nz10, nz31, nz32, nz50, nz400, nz800, nz3200, nz20000, nlt_f, nlt_t, nle_f, nle_t, neq_f, neq_t, gi_si_e, gi_si_n, gp_sp_e, gp_sp_n, gr_sr_e, gr_sr_n, gi_sp, gi_sr, gp_si, gp_sr, gr_si, gr_sp, upd_e, upd_n, un_e, un_n, an_sn_e, an_sn_n, an_sm, an_sv, am_sn, am_sm_e, am_sm_n, am_sv, ai_sn, ai_sm, ai_sv_e, ai_sv_n, reduceIte, or_false, false_or, or_true, true_or, or_self, and_true, true_and, and_false, false_and, not_true_eq_false, not_false_eq_true, f1, Nat.add_sub_cancel, f2, h2]
theorem runs_s (hm : an a 0 ≤ 20000) {j : Nat} {L : List Int32} (hL : L.length ≤ 800) (hv : vl a L) (hC : CD a σ) (hR : cR j L σ) (hs : sortedK (ky a 0) L) : ∀ (d : Nat) {fu i : Nat}, L.length - (i + 1) = d → d < fu → i + 1 ≤ L.length → f_X10_numberOfRuns_L4 j σ fu (nI 1) (nI (i + 1)) = some (nI 1) := by
  intro d
  induction d with
  | zero =>
    intro fu i hd hf hi
    obtain ⟨fu, rfl⟩ : ∃ f, fu = f + 1 := ⟨fu - 1, by omega⟩
    unfold f_X10_numberOfRuns_L4; simp (disch := omega) only [↓bnd_s, ↓bnd2_s, ↓bnd3_s, ↓bnd4_s, ↓bnd5_s, ↓bndR_l, ↓bndR_r, ↓bndX_l, ↓bndX_r, bnd_s, bnd2_s, bnd3_s, bnd4_s, bnd5_s, bndR_l, bndR_r, bndX_l, bndX_r, nq_lt, nq_le, nq_inj, nq_add, nq_mul, nq_sub, nq_div, nq_neg1, nq_clamp, nq_ne1, nq_le1, ne1_lt, n1_lt0, n1_lt, n1_ne, nz0, nz1, nz2, nz3, nz4, nz5, nz6, nz8, nz10, nz31, nz32, nz50, nz400, nz800, nz3200, nz20000, nlt_f, nlt_t, nle_f, nle_t, neq_f, neq_t, gi_si_e, gi_si_n, gp_sp_e, gp_sp_n, gr_sr_e, gr_sr_n, gi_sp, gi_sr, gp_si, gp_sr, gr_si, gr_sp, upd_e, upd_n, un_e, un_n, an_sn_e, an_sn_n, an_sm, an_sv, am_sn, am_sm_e, am_sm_n, am_sv, ai_sn, ai_sm, ai_sv_e, ai_sv_n, reduceIte, or_false, false_or, or_true, true_or, or_self, and_true, true_and, and_false, false_and, not_true_eq_false, not_false_eq_true, hR.1]
  | succ d ih =>
    intro fu i hd hf hi
    obtain ⟨fu, rfl⟩ : ∃ f, fu = f + 1 := ⟨fu - 1, by omega⟩
    have := ih (fu := fu) (i := i + 1) (by omega) (by omega) (by omega)
    have e1 := starts_s hm hL hv hC hR hs (k := i) (by omega)
    unfold f_X10_numberOfRuns_L4; simp (disch := omega) only [↓bnd_s, ↓bnd2_s, ↓bnd3_s, ↓bnd4_s, ↓bnd5_s, ↓bndR_l, ↓bndR_r, ↓bndX_l, ↓bndX_r, bnd_s, bnd2_s, bnd3_s, bnd4_s, bnd5_s, bndR_l, bndR_r, bndX_l, bndX_r, nq_lt, nq_le, nq_inj, nq_add, nq_mul, nq_sub, nq_div, nq_neg1, nq_clamp, nq_ne1, nq_le1, ne1_lt, n1_lt0, n1_lt, n1_ne, nz0, nz1, nz2, nz3, nz4, nz5, nz6, nz8, nz10, nz31, nz32, nz50, nz400, nz800, nz3200, nz20000, nlt_f, nlt_t, nle_f, nle_t, neq_f, neq_t, gi_si_e, gi_si_n, gp_sp_e, gp_sp_n, gr_sr_e, gr_sr_n, gi_sp, gi_sr, gp_si, gp_sr, gr_si, gr_sp, upd_e, upd_n, un_e, un_n, an_sn_e, an_sn_n, an_sm, an_sv, am_sn, am_sm_e, am_sm_n, am_sv, ai_sn, ai_sm, ai_sv_e, ai_sv_n, reduceIte, or_false, false_or, or_true, true_or, or_self, and_true, true_and, and_false, false_and, not_true_eq_false, not_false_eq_true, hR.1, e1]; exact this
theorem rises_s (hm : an a 0 ≤ 20000) {j : Nat} {L : List Int32} (hL : L.length ≤ 800) (hv : vl a L) (hC : CD a σ) (hR : cR j L σ) (hs : sortedK (ky a 0) L) : f_X10_rises j σ = some (nI 1) := by
  have h1 : ∃ o, o ≤ 1 ∧ f_X10_numberOfRuns j σ = some (nI o) := by
    by_cases hz : L.length = 0
    · refine ⟨0, by omega, ?_⟩
      unfold f_X10_numberOfRuns f_X10_numberOfRuns_L4 FU; simp (disch := omega) only [↓bnd_s, ↓bnd2_s, ↓bnd3_s, ↓bnd4_s, ↓bnd5_s, ↓bndR_l, ↓bndR_r, ↓bndX_l, ↓bndX_r, bnd_s, bnd2_s, bnd3_s, bnd4_s, bnd5_s, bndR_l, bndR_r, bndX_l, bndX_r, nq_lt, nq_le, nq_inj, nq_add, nq_mul, nq_sub, nq_div, nq_neg1, nq_clamp, nq_ne1, nq_le1, ne1_lt, n1_lt0, n1_lt, n1_ne, nz0, nz1, nz2, nz3, nz4, nz5, nz6, nz8, nz10, nz31, nz32, nz50, nz400, nz800, nz3200, nz20000, nlt_f, nlt_t, nle_f, nle_t, neq_f, neq_t, gi_si_e, gi_si_n, gp_sp_e, gp_sp_n, gr_sr_e, gr_sr_n, gi_sp, gi_sr, gp_si, gp_sr, gr_si, gr_sp, upd_e, upd_n, un_e, un_n, an_sn_e, an_sn_n, an_sm, an_sv, am_sn, am_sm_e, am_sm_n, am_sv, ai_sn, ai_sm, ai_sv_e, ai_sv_n, reduceIte, or_false, false_or, or_true, true_or, or_self, and_true, true_and, and_false, false_and, not_true_eq_false, not_false_eq_true, hR.1, hz]
    · refine ⟨1, by omega, ?_⟩
      have g := runs_s hm hL hv hC hR hs _ (fu := 3999) (i := 0) rfl (by omega) (by omega)
      rw [Nat.zero_add] at g
      have e0 : f_X10_startsRun j (nI 0) σ = some (nI 1) := by unfold f_X10_startsRun; simp (disch := omega) only [↓bnd_s, ↓bnd2_s, ↓bnd3_s, ↓bnd4_s, ↓bnd5_s, ↓bndR_l, ↓bndR_r, ↓bndX_l, ↓bndX_r, bnd_s, bnd2_s, bnd3_s, bnd4_s, bnd5_s, bndR_l, bndR_r, bndX_l, bndX_r, nq_lt, nq_le, nq_inj, nq_add, nq_mul, nq_sub, nq_div, nq_neg1, nq_clamp, nq_ne1, nq_le1, ne1_lt, n1_lt0, n1_lt, n1_ne, nz0, nz1, nz2, nz3, nz4, nz5, nz6, nz8, nz10, nz31, nz32, nz50, nz400, nz800, nz3200, nz20000, nlt_f, nlt_t, nle_f, nle_t, neq_f, neq_t, gi_si_e, gi_si_n, gp_sp_e, gp_sp_n, gr_sr_e, gr_sr_n, gi_sp, gi_sr, gp_si, gp_sr, gr_si, gr_sp, upd_e, upd_n, un_e, un_n, an_sn_e, an_sn_n, an_sm, an_sv, am_sn, am_sm_e, am_sm_n, am_sv, ai_sn, ai_sm, ai_sv_e, ai_sv_n, reduceIte, or_false, false_or, or_true, true_or, or_self, and_true, true_and, and_false, false_and, not_true_eq_false, not_false_eq_true]
      unfold f_X10_numberOfRuns FU; unfold f_X10_numberOfRuns_L4; simp (disch := omega) only [↓bnd_s, ↓bnd2_s, ↓bnd3_s, ↓bnd4_s, ↓bnd5_s, ↓bndR_l, ↓bndR_r, ↓bndX_l, ↓bndX_r, bnd_s, bnd2_s, bnd3_s, bnd4_s, bnd5_s, bndR_l, bndR_r, bndX_l, bndX_r, nq_lt, nq_le, nq_inj, nq_add, nq_mul, nq_sub, nq_div, nq_neg1, nq_clamp, nq_ne1, nq_le1, ne1_lt, n1_lt0, n1_lt, n1_ne, nz0, nz1, nz2, nz3, nz4, nz5, nz6, nz8, nz10, nz31, nz32, nz50, nz400, nz800, nz3200, nz20000, nlt_f, nlt_t, nle_f, nle_t, neq_f, neq_t, gi_si_e, gi_si_n, gp_sp_e, gp_sp_n, gr_sr_e, gr_sr_n, gi_sp, gi_sr, gp_si, gp_sr, gr_si, gr_sp, upd_e, upd_n, un_e, un_n, an_sn_e, an_sn_n, an_sm, an_sv, am_sn, am_sm_e, am_sm_n, am_sv, ai_sn, ai_sm, ai_sv_e, ai_sv_n, reduceIte, or_false, false_or, or_true, true_or, or_self, and_true, true_and, and_false, false_and, not_true_eq_false, not_false_eq_true, hR.1, e0, Nat.zero_add, g]
  obtain ⟨o, ho, g⟩ := h1
  unfold f_X10_rises
  simp (disch := omega) only [↓bnd_s, ↓bnd2_s, ↓bnd3_s, ↓bnd4_s, ↓bnd5_s, ↓bndR_l, ↓bndR_r, ↓bndX_l, ↓bndX_r, bnd_s, bnd2_s, bnd3_s, bnd4_s, bnd5_s, bndR_l, bndR_r, bndX_l, bndX_r, nq_lt, nq_le, nq_inj, nq_add, nq_mul, nq_sub, nq_div, nq_neg1, nq_clamp, nq_ne1, nq_le1, ne1_lt, n1_lt0, n1_lt, n1_ne, nz0, nz1, nz2, nz3, nz4, nz5, nz6, nz8, nz10, nz31, nz32, nz50, nz400, nz800, nz3200, nz20000, nlt_f, nlt_t, nle_f, nle_t, neq_f, neq_t, gi_si_e, gi_si_n, gp_sp_e, gp_sp_n, gr_sr_e, gr_sr_n, gi_sp, gi_sr, gp_si, gp_sr, gr_si, gr_sp, upd_e, upd_n, un_e, un_n, an_sn_e, an_sn_n, an_sm, an_sv, am_sn, am_sm_e, am_sm_n, am_sv, ai_sn, ai_sm, ai_sv_e, ai_sv_n, reduceIte, or_false, false_or, or_true, true_or, or_self, and_true, true_and, and_false, false_and, not_true_eq_false, not_false_eq_true, g]
theorem CD.ef {σ' : St} (h : CD a σ) (f : erC σ σ') : CD a σ' := h.fr (f.1 10 (by decide) (by decide) (by decide)) (f.2.2 2 (by decide) (by decide) (by decide) (by decide)) (f.2.2 3 (by decide) (by decide) (by decide) (by decide))
theorem cR.ef {σ' : St} {r : Nat} {L : List Int32} (hr : r < 4) (h : cR (16 + r) L σ) (f : erC σ σ') : cR (16 + r) L σ' := by
  refine ⟨?_, ?_⟩
  · rw [f.1 _ (by omega) (by omega) (by omega)]; exact h.1
  · rw [f.2.2 _ (by omega) (by omega) (by omega) (by omega)]; exact h.2
theorem holds_eq (hm : an a 0 ≤ 20000) {r s s2 : Nat} (hr : r < 4) {L : List Int32} (hL : L.length ≤ 800) (hv : vl a L) (hC : CD a σ) (hS : ∃ m m', SO σ m m') (hR : cR (16 + r) L σ) (hs : gi σ 193 = nI s) (hs2 : gi σ 201 = nI s2) (h8 : s ≤ 800) (h82 : s2 ≤ 800) :
    ∃ σ', f_X10_theoremHolds (16 + r) σ = some (nI 1, σ') ∧ erC σ σ' ∧ (∃ m m', SO σ' m m') ∧ gi σ' 193 = nI L.length ∧ gi σ' 201 = nI L.length := by
  obtain ⟨c1, σ1, p1, e1, r1, o1, S1, -, n1⟩ := bec_st (j := 24) (i2 := 16 + r) (L := L) (Or.inl rfl) (by omega) hs h8 hL hR
  have S1 : ∃ m m', SO σ1 m m' := by obtain ⟨m, m', h⟩ := hS; exact ⟨m, m', S1 m m' h⟩
  have C1 := hC.ef e1
  obtain ⟨c2, σ2, p2, e2, r2, o2, S2, -, n2⟩ := arr_st hm (t := 0) (by omega) (Or.inl rfl) rfl hL hv C1 S1 r1
  have C2 := C1.ef e2
  have l0 := isrt_len (ky a 0) L
  have so0 : sortedK (ky a 0) (isrt (ky a 0) L) := (isrt_srt _ _ _ rfl).1
  have p3 := rises_s hm (by omega) hv.is C2 r2 so0
  obtain ⟨c4, σ4, p4, e4, r4, o4, S4, z4, n4⟩ := arr_st hm (t := 0) (by omega) (Or.inl rfl) l0 (by omega) hv.is C2 S2 r2
  have z4 := z4 (isrt_id so0)
  subst z4
  rw [isrt_id so0] at r4
  have E4 := (e1.trans e2).trans e4
  obtain ⟨c5, σ5, p5, e5, r5, o5, S5, -, n5⟩ := bec_st (j := 24) (i2 := 16 + r) (L := L) (s := L.length) (Or.inl rfl) (by omega) (by rw [← l0]; exact r4.1) hL hL (hR.ef hr E4)
  have S5 : ∃ m m', SO σ5 m m' := by obtain ⟨m, m', h⟩ := S4; exact ⟨m, m', S5 m m' h⟩
  have E5 := E4.trans e5
  obtain ⟨c6, σ6, p6, e6, r6, o6, S6, -, n6⟩ := arr_st hm (t := 2) (by omega) (Or.inl rfl) rfl hL hv (hC.ef E5) S5 r5
  have E6 := E5.trans e6
  have l2 := isrt_len (ky a 2) L
  obtain ⟨c7, σ7, p7, e7, r7, o7, S7, -, n7⟩ := arr_st hm (t := 0) (by omega) (Or.inl rfl) l2 (by omega) hv.is (hC.ef E6) S6 r6
  have E7 := E6.trans e7
  rw [both_eq] at r7
  have l3 := isrt_len (ky a 3) L
  have q2 : gi σ7 201 = nI s2 := (n7 201 (by decide)).trans ((n6 201 (by decide)).trans ((n5 201 (by decide)).trans ((n4 201 (by decide)).trans ((n2 201 (by decide)).trans ((n1 201 (by decide)).trans hs2)))))
  obtain ⟨c8, σ8, p8, e8, r8, o8, S8, -, n8⟩ := bec_st (j := 25) (i2 := 16 + r) (L := L) (Or.inr rfl) (by omega) q2 h82 hL (hR.ef hr E7)
  have S8 : ∃ m m', SO σ8 m m' := by obtain ⟨m, m', h⟩ := S7; exact ⟨m, m', S8 m m' h⟩
  have E8 := E7.trans e8
  obtain ⟨c9, σ9, p9, e9, r9, o9, S9, -, n9⟩ := arr_st hm (t := 3) (by omega) (Or.inr rfl) rfl hL hv (hC.ef E8) S8 r8
  have r9' := o9 24 _ (Or.inl rfl) (by decide) (o8 24 _ (by decide) r7)
  have E9 := E8.trans e9
  obtain ⟨cA, σA, pA, eA, rA, oA, SA, zA, nA⟩ := bec_st (j := 24) (i2 := 25) (L := isrt (ky a 3) L) (s := L.length) (Or.inl rfl) (by decide) (by rw [← l3]; exact r9'.1) hL (by omega) r9
  have zA := zA r9'
  subst zA
  have SA : ∃ m m', SO σA m m' := by obtain ⟨m, m', h⟩ := S9; exact ⟨m, m', SA m m' h⟩
  refine ⟨σA, ?_, E9.trans eA, SA, by rw [← l3]; exact rA.1, by rw [← l3]; exact (oA 25 _ (by decide) r9).1⟩
  unfold f_X10_theoremHolds
  rw [show oNo 0 = 0 from rfl] at p2 p4 p7
  rw [show oNo 2 = 1 from rfl] at p6
  rw [show oNo 3 = 2 from rfl] at p9
  simp (disch := omega) only [↓bnd_s, ↓bnd2_s, ↓bnd3_s, ↓bnd4_s, ↓bnd5_s, ↓bndR_l, ↓bndR_r, ↓bndX_l, ↓bndX_r, bnd_s, bnd2_s, bnd3_s, bnd4_s, bnd5_s, bndR_l, bndR_r, bndX_l, bndX_r, nq_lt, nq_le, nq_inj, nq_add, nq_mul, nq_sub, nq_div, nq_neg1, nq_clamp, nq_ne1, nq_le1, ne1_lt, n1_lt0, n1_lt, n1_ne, nz0, nz1, nz2, nz3, nz4, nz5, nz6, nz8, nz10, nz31, nz32, nz50, nz400, nz800, nz3200, nz20000, nlt_f, nlt_t, nle_f, nle_t, neq_f, neq_t, gi_si_e, gi_si_n, gp_sp_e, gp_sp_n, gr_sr_e, gr_sr_n, gi_sp, gi_sr, gp_si, gp_sr, gr_si, gr_sp, upd_e, upd_n, un_e, un_n, an_sn_e, an_sn_n, an_sm, an_sv, am_sn, am_sm_e, am_sm_n, am_sv, ai_sn, ai_sm, ai_sv_e, ai_sv_n, reduceIte, or_false, false_or, or_true, true_or, or_self, and_true, true_and, and_false, false_and, not_true_eq_false, not_false_eq_true, hR.1, p1, p2, p3, p4, p5, p6, p7, p8, p9, pA]
/-- the copies' lengths change, nothing else that is seen -/
theorem rel_copies (h : REL a σ τ) {σ' : St} {s s2 : Nat} (h8 : s ≤ 800) (h82 : s2 ≤ 800) (f : erC σ σ') (hS : ∃ m m', SO σ' m m') (g1 : gi σ' 193 = nI s) (g2 : gi σ' 201 = nI s2) : REL (sn (sn a 2 s) 3 s2) σ' τ := by
  obtain ⟨m, m', hS⟩ := hS
  refine ⟨?_, ?_, ?_, ?_, ?_, ?_, ?_, ?_, ?_, ?_, ?_⟩
  · obtain ⟨h1, h2, h3, h4, h5, h6, h7, h8, h9, h10⟩ := h.wa
    refine ⟨?_, ?_, ?_, ?_, fun r' hr' => ?_, fun r' hr' => ?_, fun r' k' hr' hk' => ?_, fun r' k' hr' hk' => ?_, fun k' hk' => ?_, fun r' hr' hk' => ?_⟩
    · simp (disch := omega) only [gi_si_e, gi_si_n, gp_sp_e, gp_sp_n, gr_sr_e, gr_sr_n, gi_sp, gi_sr, gp_si, gp_sr, gr_si, gr_sp, upd_e, upd_n, un_e, un_n, an_sn_e, an_sn_n, an_sm, an_sv, am_sn, am_sm_e, am_sm_n, am_sv, ai_sn, ai_sm, ai_sv_e, ai_sv_n, reduceIte, or_false, false_or, or_true, true_or, or_self, and_true, true_and, and_false, false_and, not_true_eq_false, not_false_eq_true]; exact h1
    · simp (disch := omega) only [gi_si_e, gi_si_n, gp_sp_e, gp_sp_n, gr_sr_e, gr_sr_n, gi_sp, gi_sr, gp_si, gp_sr, gr_si, gr_sp, upd_e, upd_n, un_e, un_n, an_sn_e, an_sn_n, an_sm, an_sv, am_sn, am_sm_e, am_sm_n, am_sv, ai_sn, ai_sm, ai_sv_e, ai_sv_n, reduceIte, or_false, false_or, or_true, true_or, or_self, and_true, true_and, and_false, false_and, not_true_eq_false, not_false_eq_true]; exact h2
    · simp (disch := omega) only [gi_si_e, gi_si_n, gp_sp_e, gp_sp_n, gr_sr_e, gr_sr_n, gi_sp, gi_sr, gp_si, gp_sr, gr_si, gr_sp, upd_e, upd_n, un_e, un_n, an_sn_e, an_sn_n, an_sm, an_sv, am_sn, am_sm_e, am_sm_n, am_sv, ai_sn, ai_sm, ai_sv_e, ai_sv_n, reduceIte, or_false, false_or, or_true, true_or, or_self, and_true, true_and, and_false, false_and, not_true_eq_false, not_false_eq_true]; omega
    · simp (disch := omega) only [gi_si_e, gi_si_n, gp_sp_e, gp_sp_n, gr_sr_e, gr_sr_n, gi_sp, gi_sr, gp_si, gp_sr, gr_si, gr_sp, upd_e, upd_n, un_e, un_n, an_sn_e, an_sn_n, an_sm, an_sv, am_sn, am_sm_e, am_sm_n, am_sv, ai_sn, ai_sm, ai_sv_e, ai_sv_n, reduceIte, or_false, false_or, or_true, true_or, or_self, and_true, true_and, and_false, false_and, not_true_eq_false, not_false_eq_true]; omega
    · simp (disch := omega) only [gi_si_e, gi_si_n, gp_sp_e, gp_sp_n, gr_sr_e, gr_sr_n, gi_sp, gi_sr, gp_si, gp_sr, gr_si, gr_sp, upd_e, upd_n, un_e, un_n, an_sn_e, an_sn_n, an_sm, an_sv, am_sn, am_sm_e, am_sm_n, am_sv, ai_sn, ai_sm, ai_sv_e, ai_sv_n, reduceIte, or_false, false_or, or_true, true_or, or_self, and_true, true_and, and_false, false_and, not_true_eq_false, not_false_eq_true]; exact h5 _ hr'
    · simp (disch := omega) only [gi_si_e, gi_si_n, gp_sp_e, gp_sp_n, gr_sr_e, gr_sr_n, gi_sp, gi_sr, gp_si, gp_sr, gr_si, gr_sp, upd_e, upd_n, un_e, un_n, an_sn_e, an_sn_n, an_sm, an_sv, am_sn, am_sm_e, am_sm_n, am_sv, ai_sn, ai_sm, ai_sv_e, ai_sv_n, reduceIte, or_false, false_or, or_true, true_or, or_self, and_true, true_and, and_false, false_and, not_true_eq_false, not_false_eq_true]; exact h6 _ hr'
    · rw [an_sn_n _ _ (by omega), an_sn_n _ _ (by omega)] at hk'; simp (disch := omega) only [gi_si_e, gi_si_n, gp_sp_e, gp_sp_n, gr_sr_e, gr_sr_n, gi_sp, gi_sr, gp_si, gp_sr, gr_si, gr_sp, upd_e, upd_n, un_e, un_n, an_sn_e, an_sn_n, an_sm, an_sv, am_sn, am_sm_e, am_sm_n, am_sv, ai_sn, ai_sm, ai_sv_e, ai_sv_n, reduceIte, or_false, false_or, or_true, true_or, or_self, and_true, true_and, and_false, false_and, not_true_eq_false, not_false_eq_true]; exact h7 _ _ hr' hk'
    · rw [an_sn_n _ _ (by omega), an_sn_n _ _ (by omega)] at hk'; simp (disch := omega) only [gi_si_e, gi_si_n, gp_sp_e, gp_sp_n, gr_sr_e, gr_sr_n, gi_sp, gi_sr, gp_si, gp_sr, gr_si, gr_sp, upd_e, upd_n, un_e, un_n, an_sn_e, an_sn_n, an_sm, an_sv, am_sn, am_sm_e, am_sm_n, am_sv, ai_sn, ai_sm, ai_sv_e, ai_sv_n, reduceIte, or_false, false_or, or_true, true_or, or_self, and_true, true_and, and_false, false_and, not_true_eq_false, not_false_eq_true]; exact h8 _ _ hr' hk'
    · rw [an_sn_n _ _ (by omega), an_sn_n _ _ (by omega)] at hk'; simp (disch := omega) only [gi_si_e, gi_si_n, gp_sp_e, gp_sp_n, gr_sr_e, gr_sr_n, gi_sp, gi_sr, gp_si, gp_sr, gr_si, gr_sp, upd_e, upd_n, un_e, un_n, an_sn_e, an_sn_n, an_sm, an_sv, am_sn, am_sm_e, am_sm_n, am_sv, ai_sn, ai_sm, ai_sv_e, ai_sv_n, reduceIte, or_false, false_or, or_true, true_or, or_self, and_true, true_and, and_false, false_and, not_true_eq_false, not_false_eq_true]; exact h9 _ hk'
    · rw [an_sn_n _ _ (by omega), an_sn_n _ _ (by omega)] at hk' ⊢; exact h10 _ hr' hk'
  · have := h.cd.ef f
    unfold CD at this ⊢; simp (disch := omega) only [gi_si_e, gi_si_n, gp_sp_e, gp_sp_n, gr_sr_e, gr_sr_n, gi_sp, gi_sr, gp_si, gp_sr, gr_si, gr_sp, upd_e, upd_n, un_e, un_n, an_sn_e, an_sn_n, an_sm, an_sv, am_sn, am_sm_e, am_sm_n, am_sv, ai_sn, ai_sm, ai_sv_e, ai_sv_n, reduceIte, or_false, false_or, or_true, true_or, or_self, and_true, true_and, and_false, false_and, not_true_eq_false, not_false_eq_true]; exact this
  · have := h.cr
    refine ⟨fun r hr => ?_, fun r k hr hk => ?_⟩
    · rw [f.1 _ (by omega) (by omega) (by omega), an_sn_n _ _ (by omega), an_sn_n _ _ (by omega)]; exact this.1 r hr
    · rw [an_sn_n _ _ (by omega), an_sn_n _ _ (by omega)] at hk
      rw [f.2.2 _ (by omega) (by omega) (by omega) (by omega)]; exact this.2 r k hr hk
  · have := h.ck
    refine ⟨fun r hr => ?_, fun r k hr hk => ?_, fun r hr => ?_⟩
    · rw [f.1 _ (by omega) (by omega) (by omega), an_sn_n _ _ (by omega), an_sn_n _ _ (by omega), an_sn_n _ _ (by omega), an_sn_n _ _ (by omega)]; exact this.1 r hr
    · rw [an_sn_n _ _ (by omega), an_sn_n _ _ (by omega)] at hk
      rw [f.2.2 _ (by omega) (by omega) (by omega) (by omega)]; exact this.2.1 r k hr hk
    · rw [f.2.2 _ (by omega) (by omega) (by omega) (by omega), an_sn_n _ _ (by omega), an_sn_n _ _ (by omega)]; exact this.2.2 r hr
  · have := h.ct
    unfold CT at this ⊢
    rw [f.1 81 (by decide) (by decide) (by decide), f.2.2 11 (by decide) (by decide) (by decide) (by decide)]
    simp (disch := omega) only [gi_si_e, gi_si_n, gp_sp_e, gp_sp_n, gr_sr_e, gr_sr_n, gi_sp, gi_sr, gp_si, gp_sr, gr_si, gr_sp, upd_e, upd_n, un_e, un_n, an_sn_e, an_sn_n, an_sm, an_sv, am_sn, am_sm_e, am_sm_n, am_sv, ai_sn, ai_sm, ai_sv_e, ai_sv_n, reduceIte, or_false, false_or, or_true, true_or, or_self, and_true, true_and, and_false, false_and, not_true_eq_false, not_false_eq_true]; exact this
  · have := h.cx
    refine ⟨?_, ?_, ?_, hS.or⟩
    · rw [f.1 112 (by decide) (by decide) (by decide)]; exact this.1
    · rw [an_sn_n _ _ (by decide), an_sn_e _ _ rfl]; exact g1
    · rw [an_sn_e _ _ rfl]; exact g2
  · have := h.md; unfold MD at this ⊢; simp (disch := omega) only [gi_si_e, gi_si_n, gp_sp_e, gp_sp_n, gr_sr_e, gr_sr_n, gi_sp, gi_sr, gp_si, gp_sr, gr_si, gr_sp, upd_e, upd_n, un_e, un_n, an_sn_e, an_sn_n, an_sm, an_sv, am_sn, am_sm_e, am_sm_n, am_sv, ai_sn, ai_sm, ai_sv_e, ai_sv_n, reduceIte, or_false, false_or, or_true, true_or, or_self, and_true, true_and, and_false, false_and, not_true_eq_false, not_false_eq_true]; exact this
  · have := h.mr
    refine ⟨fun r hr => ?_, fun r k hr hk => ?_⟩
    · rw [an_sn_n _ _ (by omega), an_sn_n _ _ (by omega)]; exact this.1 r hr
    · rw [an_sn_n _ _ (by omega), an_sn_n _ _ (by omega)] at hk; exact this.2 r k hr hk
  · have := h.mk
    refine ⟨fun r hr => ?_, fun r k hr hk => ?_⟩
    · rw [an_sn_n _ _ (by omega), an_sn_n _ _ (by omega), an_sn_n _ _ (by omega), an_sn_n _ _ (by omega)]; exact this.1 r hr
    · rw [an_sn_n _ _ (by omega), an_sn_n _ _ (by omega)] at hk; exact this.2 r k hr hk
  · have := h.mt; unfold MT at this ⊢; simp (disch := omega) only [gi_si_e, gi_si_n, gp_sp_e, gp_sp_n, gr_sr_e, gr_sr_n, gi_sp, gi_sr, gp_si, gp_sr, gr_si, gr_sp, upd_e, upd_n, un_e, un_n, an_sn_e, an_sn_n, an_sm, an_sv, am_sn, am_sm_e, am_sm_n, am_sv, ai_sn, ai_sm, ai_sv_e, ai_sv_n, reduceIte, or_false, false_or, or_true, true_or, or_self, and_true, true_and, and_false, false_and, not_true_eq_false, not_false_eq_true]; exact this
  · have := h.mx; unfold MX at this ⊢; simp (disch := omega) only [gi_si_e, gi_si_n, gp_sp_e, gp_sp_n, gr_sr_e, gr_sr_n, gi_sp, gi_sr, gp_si, gp_sr, gr_si, gr_sp, upd_e, upd_n, un_e, un_n, an_sn_e, an_sn_n, an_sm, an_sv, am_sn, am_sm_e, am_sm_n, am_sv, ai_sn, ai_sm, ai_sv_e, ai_sv_n, reduceIte, or_false, false_or, or_true, true_or, or_self, and_true, true_and, and_false, false_and, not_true_eq_false, not_false_eq_true]; exact this
theorem mk_vl (h : REL a σ τ) {r : Nat} (hr : r < 4) : vl a (seg (mk a r) 0 (an a (10 + r))) := fun x hx => by
  obtain ⟨k, hk, ek⟩ := seg_mem hx
  rw [Nat.zero_add] at ek
  exact ⟨_, h.lt hr hk, ek⟩
theorem errC_L : ∀ (d : Nat) {fu r : Nat} {a : AS} {σ : St}, 4 - r = d → d < fu → r ≤ 4 → REL a σ τ → ∃ σ' a', f_X10_errors_L4 fu (nI 0) (nI r) σ = some (nI 0, σ') ∧ REL a' σ' τ := by
  intro d
  induction d with
  | zero =>
    intro fu r a σ hd hf hr h
    obtain ⟨fu, rfl⟩ : ∃ f, fu = f + 1 := ⟨fu - 1, by omega⟩
    exact ⟨σ, a, by unfold f_X10_errors_L4; simp (disch := omega) only [↓bnd_s, ↓bnd2_s, ↓bnd3_s, ↓bnd4_s, ↓bnd5_s, ↓bndR_l, ↓bndR_r, ↓bndX_l, ↓bndX_r, bnd_s, bnd2_s, bnd3_s, bnd4_s, bnd5_s, bndR_l, bndR_r, bndX_l, bndX_r, nq_lt, nq_le, nq_inj, nq_add, nq_mul, nq_sub, nq_div, nq_neg1, nq_clamp, nq_ne1, nq_le1, ne1_lt, n1_lt0, n1_lt, n1_ne, nz0, nz1, nz2, nz3, nz4, nz5, nz6, nz8, nz10, nz31, nz32, nz50, nz400, nz800, nz3200, nz20000, nlt_f, nlt_t, nle_f, nle_t, neq_f, neq_t, gi_si_e, gi_si_n, gp_sp_e, gp_sp_n, gr_sr_e, gr_sr_n, gi_sp, gi_sr, gp_si, gp_sr, gr_si, gr_sp, upd_e, upd_n, un_e, un_n, an_sn_e, an_sn_n, an_sm, an_sv, am_sn, am_sm_e, am_sm_n, am_sv, ai_sn, ai_sm, ai_sv_e, ai_sv_n, reduceIte, or_false, false_or, or_true, true_or, or_self, and_true, true_and, and_false, false_and, not_true_eq_false, not_false_eq_true], h⟩
  | succ d ih =>
    intro fu r a σ hd hf hr h
    obtain ⟨fu, rfl⟩ : ∃ f, fu = f + 1 := ⟨fu - 1, by omega⟩
    have hr4 : r < 4 := by omega
    have hn := h.n hr4
    have hl := seg_len (mk a r) (an a (10 + r)) 0
    obtain ⟨σ', k1, k2, k3, k4, k5⟩ := holds_eq h.m hr4 (L := seg (mk a r) 0 (an a (10 + r))) (by omega) (mk_vl h hr4) h.cd h.SO ⟨by rw [hl]; exact h.cn hr4, by rw [hl]; exact seg_congr fun k hk => by rw [Nat.zero_add]; exact h.cmk hr4 hk⟩ h.cx.2.1 h.cx.2.2.1 h.wa.2.2.1 h.wa.2.2.2.1
    rw [hl] at k4 k5
    obtain ⟨σ2, a2, l1, l2⟩ := ih (fu := fu) (r := r + 1) (by omega) (by omega) (by omega) (rel_copies h hn hn k2 k3 k4 k5)
    refine ⟨σ2, a2, ?_, l2⟩
    unfold f_X10_errors_L4
    simp (disch := omega) only [↓bnd_s, ↓bnd2_s, ↓bnd3_s, ↓bnd4_s, ↓bnd5_s, ↓bndR_l, ↓bndR_r, ↓bndX_l, ↓bndX_r, bnd_s, bnd2_s, bnd3_s, bnd4_s, bnd5_s, bndR_l, bndR_r, bndX_l, bndX_r, nq_lt, nq_le, nq_inj, nq_add, nq_mul, nq_sub, nq_div, nq_neg1, nq_clamp, nq_ne1, nq_le1, ne1_lt, n1_lt0, n1_lt, n1_ne, nz0, nz1, nz2, nz3, nz4, nz5, nz6, nz8, nz10, nz31, nz32, nz50, nz400, nz800, nz3200, nz20000, nlt_f, nlt_t, nle_f, nle_t, neq_f, neq_t, gi_si_e, gi_si_n, gp_sp_e, gp_sp_n, gr_sr_e, gr_sr_n, gi_sp, gi_sr, gp_si, gp_sr, gr_si, gr_sp, upd_e, upd_n, un_e, un_n, an_sn_e, an_sn_n, an_sm, an_sv, am_sn, am_sm_e, am_sm_n, am_sv, ai_sn, ai_sm, ai_sv_e, ai_sv_n, reduceIte, or_false, false_or, or_true, true_or, or_self, and_true, true_and, and_false, false_and, not_true_eq_false, not_false_eq_true, k1]
    exact l1
/-- what may change on the reference's side -/
def nF (τ τ' : St) : Prop := (∀ k, gi τ' k = gi τ k) ∧ ∀ i, i ≠ 12 → i ≠ 13 → i ≠ 26 → i ≠ 27 → gr τ' i = gr τ i
theorem nF.trans {τ τ' τ2 : St} (h : nF τ τ') (h2 : nF τ' τ2) : nF τ τ2 := ⟨fun k => (h2.1 k).trans (h.1 k), fun i a b c d => (h2.2 i a b c d).trans (h.2 i a b c d)⟩
theorem nF.refl (τ : St) : nF τ τ := ⟨fun _ => rfl, fun _ _ _ _ _ => rfl⟩
theorem nF.mR {τ' : St} {r n : Nat} (f : nF τ τ') (h : mR a r n τ) : mR a r n τ' := h.fr (f.1 2) (f.2 1 (by decide) (by decide) (by decide) (by decide)) (f.2 2 (by decide) (by decide) (by decide) (by decide)) (f.2 4 (by decide) (by decide) (by decide) (by decide)) (f.2 6 (by decide) (by decide) (by decide) (by decide))
theorem loads_st {r n : Nat} (hr : r < 4) (h : mR a r n τ) : ∃ X, f_X11_loads (nI r) τ = some (sr τ 12 X) ∧ seg X 0 n = seg (mk a r) 0 n := by
  have hn := h.2.1
  have c1 := load_L (τ := τ) hr hn h.1 _ (fu := FU) (i := 0) rfl (by unfold FU; omega) (by omega)
  rw [seg_0, wr_nil, sr_id] at c1
  refine ⟨_, by unfold f_X11_loads; rw [nz0, c1]; rfl, seg_congr fun k hk => ?_⟩
  have := wr_at (gr τ 12) (gr τ 4) 0 (800 * r) n k hk
  rw [this, Nat.zero_add]
  exact (h.2.2.2.2 k hk).2
theorem sorts_st {r n t : Nat} (ht : t < 4) (h : mR a r n τ) {L : List Int32} (hv : vl a L) (hL : seg (gr τ 12) 0 n = L) :
    ∃ c τ', c ≤ 800 ∧ f_X11_sorts (nI n) (nI t) τ = some (nI c, τ') ∧ nF τ τ' ∧ seg (gr τ' 12) 0 n = isrt (ky a t) L ∧ gr τ' 27 = gr τ 27 ∧ (isrt (ky a t) L = L → c = 0) := by
  have hn := h.2.1
  obtain ⟨W, B, w1, w2, w3⟩ := sorts_eq h.2.2.2.1 ht (n := n) (by omega) h.2.2.1 (fun q hq => hv _ (by rw [← hL]; exact seg_mem' hq))
  rw [hL] at w2
  refine ⟨_, _, ?_, w1, ⟨fun k => rfl, fun i h1 h2 h3 h4 => by rw [gr_sr_n _ _ h1, gr_sr_n _ _ h2]⟩, by rw [gr_sr_e _ _ rfl]; exact w2, by simp (disch := omega) only [gi_si_e, gi_si_n, gp_sp_e, gp_sp_n, gr_sr_e, gr_sr_n, gi_sp, gi_sr, gp_si, gp_sr, gr_si, gr_sp, upd_e, upd_n, un_e, un_n, an_sn_e, an_sn_n, an_sm, an_sv, am_sn, am_sm_e, am_sm_n, am_sv, ai_sn, ai_sm, ai_sv_e, ai_sv_n, reduceIte, or_false, false_or, or_true, true_or, or_self, and_true, true_and, and_false, false_and, not_true_eq_false, not_false_eq_true], fun e => dif_0 fun k hk => ?_⟩
  · have := dif_le W (gr τ 12) n; omega
  · have q1 := seg_get W n 0 k hk
    have q2 := seg_get (gr τ 12) n 0 k hk
    rw [w2, e, ← hL, q2, Nat.zero_add] at q1
    exact (Option.some.inj q1).symm
theorem c27_L {n : Nat} (hn : n ≤ 800) : ∀ (d : Nat) {fu i : Nat}, n - i = d → d < fu → i ≤ n →
    f_X11_isTrue_L55 (nI n) fu (nI i) (sr τ 27 (wr (gr τ 27) 0 (seg (gr τ 12) 0 i))) = some (sr τ 27 (wr (gr τ 27) 0 (seg (gr τ 12) 0 n))) := by
  intro d
  induction d with
  | zero =>
    intro fu i hd hf hi
    obtain ⟨fu, rfl⟩ : ∃ f, fu = f + 1 := ⟨fu - 1, by omega⟩
    have e : i = n := by omega
    subst e
    unfold f_X11_isTrue_L55; simp (disch := omega) only [↓bnd_s, ↓bnd2_s, ↓bnd3_s, ↓bnd4_s, ↓bnd5_s, ↓bndR_l, ↓bndR_r, ↓bndX_l, ↓bndX_r, bnd_s, bnd2_s, bnd3_s, bnd4_s, bnd5_s, bndR_l, bndR_r, bndX_l, bndX_r, nq_lt, nq_le, nq_inj, nq_add, nq_mul, nq_sub, nq_div, nq_neg1, nq_clamp, nq_ne1, nq_le1, ne1_lt, n1_lt0, n1_lt, n1_ne, nz0, nz1, nz2, nz3, nz4, nz5, nz6, nz8, nz10, nz31, nz32, nz50, nz400, nz800, nz3200, nz20000, nlt_f, nlt_t, nle_f, nle_t, neq_f, neq_t, gi_si_e, gi_si_n, gp_sp_e, gp_sp_n, gr_sr_e, gr_sr_n, gi_sp, gi_sr, gp_si, gp_sr, gr_si, gr_sp, upd_e, upd_n, un_e, un_n, an_sn_e, an_sn_n, an_sm, an_sv, am_sn, am_sm_e, am_sm_n, am_sv, ai_sn, ai_sm, ai_sv_e, ai_sv_n, reduceIte, or_false, false_or, or_true, true_or, or_self, and_true, true_and, and_false, false_and, not_true_eq_false, not_false_eq_true]
  | succ d ih =>
    intro fu i hd hf hi
    obtain ⟨fu, rfl⟩ : ∃ f, fu = f + 1 := ⟨fu - 1, by omega⟩
    have := ih (fu := fu) (i := i + 1) (by omega) (by omega) (by omega)
    rw [← wr_seg_s, Nat.zero_add] at this
    unfold f_X11_isTrue_L55
    simp (disch := omega) only [↓bnd_s, ↓bnd2_s, ↓bnd3_s, ↓bnd4_s, ↓bnd5_s, ↓bndR_l, ↓bndR_r, ↓bndX_l, ↓bndX_r, bnd_s, bnd2_s, bnd3_s, bnd4_s, bnd5_s, bndR_l, bndR_r, bndX_l, bndX_r, nq_lt, nq_le, nq_inj, nq_add, nq_mul, nq_sub, nq_div, nq_neg1, nq_clamp, nq_ne1, nq_le1, ne1_lt, n1_lt0, n1_lt, n1_ne, nz0, nz1, nz2, nz3, nz4, nz5, nz6, nz8, nz10, nz31, nz32, nz50, nz400, nz800, nz3200, nz20000, nlt_f, nlt_t, nle_f, nle_t, neq_f, neq_t, gi_si_e, gi_si_n, gp_sp_e, gp_sp_n, gr_sr_e, gr_sr_n, gi_sp, gi_sr, gp_si, gp_sr, gr_si, gr_sp, upd_e, upd_n, un_e, un_n, an_sn_e, an_sn_n, an_sm, an_sv, am_sn, am_sm_e, am_sm_n, am_sv, ai_sn, ai_sm, ai_sv_e, ai_sv_n, reduceIte, or_false, false_or, or_true, true_or, or_self, and_true, true_and, and_false, false_and, not_true_eq_false, not_false_eq_true, sr_sr]
    exact this
theorem eq27_L {n : Nat} (hn : n ≤ 800) (he : ∀ k, k < n → gr τ 12 k = gr τ 27 k) : ∀ (d : Nat) {fu i : Nat}, n - i = d → d < fu → i ≤ n → f_X11_isTrue_L105 (nI n) τ fu (nI i) = some (.inr ()) := by
  intro d
  induction d with
  | zero =>
    intro fu i hd hf hi
    obtain ⟨fu, rfl⟩ : ∃ f, fu = f + 1 := ⟨fu - 1, by omega⟩
    unfold f_X11_isTrue_L105; simp (disch := omega) only [↓bnd_s, ↓bnd2_s, ↓bnd3_s, ↓bnd4_s, ↓bnd5_s, ↓bndR_l, ↓bndR_r, ↓bndX_l, ↓bndX_r, bnd_s, bnd2_s, bnd3_s, bnd4_s, bnd5_s, bndR_l, bndR_r, bndX_l, bndX_r, nq_lt, nq_le, nq_inj, nq_add, nq_mul, nq_sub, nq_div, nq_neg1, nq_clamp, nq_ne1, nq_le1, ne1_lt, n1_lt0, n1_lt, n1_ne, nz0, nz1, nz2, nz3, nz4, nz5, nz6, nz8, nz10, nz31, nz32, nz50, nz400, nz800, nz3200, nz20000, nlt_f, nlt_t, nle_f, nle_t, neq_f, neq_t, gi_si_e, gi_si_n, gp_sp_e, gp_sp_n, gr_sr_e, gr_sr_n, gi_sp, gi_sr, gp_si, gp_sr, gr_si, gr_sp, upd_e, upd_n, un_e, un_n, an_sn_e, an_sn_n, an_sm, an_sv, am_sn, am_sm_e, am_sm_n, am_sv, ai_sn, ai_sm, ai_sv_e, ai_sv_n, reduceIte, or_false, false_or, or_true, true_or, or_self, and_true, true_and, and_false, false_and, not_true_eq_false, not_false_eq_true]
  | succ d ih =>
    intro fu i hd hf hi
    obtain ⟨fu, rfl⟩ : ∃ f, fu = f + 1 := ⟨fu - 1, by omega⟩
    have := ih (fu := fu) (i := i + 1) (by omega) (by omega) (by omega)
    unfold f_X11_isTrue_L105
    simp (disch := omega) only [↓bnd_s, ↓bnd2_s, ↓bnd3_s, ↓bnd4_s, ↓bnd5_s, ↓bndR_l, ↓bndR_r, ↓bndX_l, ↓bndX_r, bnd_s, bnd2_s, bnd3_s, bnd4_s, bnd5_s, bndR_l, bndR_r, bndX_l, bndX_r, nq_lt, nq_le, nq_inj, nq_add, nq_mul, nq_sub, nq_div, nq_neg1, nq_clamp, nq_ne1, nq_le1, ne1_lt, n1_lt0, n1_lt, n1_ne, nz0, nz1, nz2, nz3, nz4, nz5, nz6, nz8, nz10, nz31, nz32, nz50, nz400, nz800, nz3200, nz20000, nlt_f, nlt_t, nle_f, nle_t, neq_f, neq_t, gi_si_e, gi_si_n, gp_sp_e, gp_sp_n, gr_sr_e, gr_sr_n, gi_sp, gi_sr, gp_si, gp_sr, gr_si, gr_sp, upd_e, upd_n, un_e, un_n, an_sn_e, an_sn_n, an_sm, an_sv, am_sn, am_sm_e, am_sm_n, am_sv, ai_sn, ai_sm, ai_sv_e, ai_sv_n, reduceIte, or_false, false_or, or_true, true_or, or_self, and_true, true_and, and_false, false_and, not_true_eq_false, not_false_eq_true, he i (by omega)]
    exact this
theorem true_eq {r n : Nat} (hr : r < 4) (h : mR a r n τ) (hv : vl a (seg (mk a r) 0 n)) : ∃ τ', f_X11_isTrue (nI r) τ = some (nI 1, τ') ∧ nF τ τ' := by
  have hn := h.2.1
  obtain ⟨X1, p1, s1⟩ := loads_st hr h
  have F1 : nF τ (sr τ 12 X1) := ⟨fun _ => rfl, fun i h1 _ _ _ => gr_sr_n _ _ h1⟩
  obtain ⟨c2, τ2, b2, p2, f2, s2, -, -⟩ := sorts_st (t := 0) (by omega) (F1.mR h) hv (by rw [gr_sr_e _ _ rfl]; exact s1)
  have F2 := F1.trans f2
  obtain ⟨U, p3⟩ := chosen_eq hr (F2.mR h) s2
  have f3 : nF τ2 (sr τ2 26 U) := ⟨fun _ => rfl, fun i _ _ h3 _ => gr_sr_n _ _ h3⟩
  have F3 := F2.trans f3
  have so0 : sortedK (ky a 0) (isrt (ky a 0) (seg (mk a r) 0 n)) := (isrt_srt _ _ _ rfl).1
  obtain ⟨c4, τ4, b4, p4, f4, s4, -, z4⟩ := sorts_st (t := 0) (by omega) (F3.mR h) hv.is (by rw [gr_sr_n _ _ (by decide)]; exact s2)
  have z4 := z4 (isrt_id so0)
  subst z4
  have F4 := F3.trans f4
  obtain ⟨X5, p5, s5⟩ := loads_st hr (F4.mR h)
  have F5 : nF τ (sr τ4 12 X5) := F4.trans ⟨fun _ => rfl, fun i h1 _ _ _ => gr_sr_n _ _ h1⟩
  obtain ⟨c6, τ6, b6, p6, f6, s6, -, -⟩ := sorts_st (t := 3) (by omega) (F5.mR h) hv (by rw [gr_sr_e _ _ rfl]; exact s5)
  have F6 := F5.trans f6
  have p7 := c27_L (τ := τ6) hn _ (fu := FU) (i := 0) rfl (by unfold FU; omega) (by omega)
  rw [seg_0, wr_nil, sr_id] at p7
  obtain ⟨V, hV⟩ : ∃ z, z = wr (gr τ6 27) 0 (seg (gr τ6 12) 0 n) := ⟨_, rfl⟩
  rw [← hV] at p7
  have F7 : nF τ (sr τ6 27 V) := F6.trans ⟨fun _ => rfl, fun i _ _ _ h4 => gr_sr_n _ _ h4⟩
  obtain ⟨X8, p8, s8⟩ := loads_st hr (F7.mR h)
  have F8 : nF τ (sr (sr τ6 27 V) 12 X8) := F7.trans ⟨fun _ => rfl, fun i h1 _ _ _ => gr_sr_n _ _ h1⟩
  obtain ⟨c9, τ9, b9, p9, f9, s9, v9, -⟩ := sorts_st (t := 2) (by omega) (F8.mR h) hv (by rw [gr_sr_e _ _ rfl]; exact s8)
  have F9 := F8.trans f9
  obtain ⟨cA, τA, bA, pA, fA, sA, vA, -⟩ := sorts_st (t := 0) (by omega) (F9.mR h) hv.is s9
  have FA := F9.trans fA
  rw [both_eq] at sA
  have e27 : ∀ k, k < n → gr τA 12 k = gr τA 27 k := fun k hk => by
    rw [vA, v9, gr_sr_n _ _ (by decide), gr_sr_e _ _ rfl]
    have q1 := seg_get (gr τA 12) n 0 k hk
    have q2 := wr_at (gr τ6 27) (gr τ6 12) 0 0 n k hk
    have q3 := seg_get (gr τ6 12) n 0 k hk
    rw [sA, ← s6, q3] at q1
    rw [Nat.zero_add] at q1 q2
    rw [hV, q2]; exact (Option.some.inj q1).symm
  have pB := eq27_L (τ := τA) hn e27 _ (fu := FU) (i := 0) rfl (by unfold FU; omega) (by omega)
  refine ⟨τA, ?_, FA⟩
  unfold f_X11_isTrue
  simp (disch := omega) only [↓bnd_s, ↓bnd2_s, ↓bnd3_s, ↓bnd4_s, ↓bnd5_s, ↓bndR_l, ↓bndR_r, ↓bndX_l, ↓bndX_r, bnd_s, bnd2_s, bnd3_s, bnd4_s, bnd5_s, bndR_l, bndR_r, bndX_l, bndX_r, nq_lt, nq_le, nq_inj, nq_add, nq_mul, nq_sub, nq_div, nq_neg1, nq_clamp, nq_ne1, nq_le1, ne1_lt, n1_lt0, n1_lt, n1_ne, nz0, nz1, nz2, nz3, nz4, nz5, nz6, nz8, nz10, nz31, nz32, nz50, nz400, nz800, nz3200, nz20000, nlt_f, nlt_t, nle_f, nle_t, neq_f, neq_t, gi_si_e, gi_si_n, gp_sp_e, gp_sp_n, gr_sr_e, gr_sr_n, gi_sp, gi_sr, gp_si, gp_sr, gr_si, gr_sp, upd_e, upd_n, un_e, un_n, an_sn_e, an_sn_n, an_sm, an_sv, am_sn, am_sm_e, am_sm_n, am_sv, ai_sn, ai_sm, ai_sv_e, ai_sv_n, reduceIte, or_false, false_or, or_true, true_or, or_self, and_true, true_and, and_false, false_and, not_true_eq_false, not_false_eq_true, h.1, p1, p2, p3, p4, p5, p6, p7, p8, p9, pA, pB]
theorem errM_L : ∀ (d : Nat) {fu r : Nat} {τ : St}, 4 - r = d → d < fu → r ≤ 4 → REL a σ τ → ∃ τ', f_X11_errors_L4 fu (nI 0) (nI r) τ = some (nI 0, τ') ∧ REL a σ τ' := by
  intro d
  induction d with
  | zero =>
    intro fu r τ hd hf hr h
    obtain ⟨fu, rfl⟩ : ∃ f, fu = f + 1 := ⟨fu - 1, by omega⟩
    exact ⟨τ, by unfold f_X11_errors_L4; simp (disch := omega) only [↓bnd_s, ↓bnd2_s, ↓bnd3_s, ↓bnd4_s, ↓bnd5_s, ↓bndR_l, ↓bndR_r, ↓bndX_l, ↓bndX_r, bnd_s, bnd2_s, bnd3_s, bnd4_s, bnd5_s, bndR_l, bndR_r, bndX_l, bndX_r, nq_lt, nq_le, nq_inj, nq_add, nq_mul, nq_sub, nq_div, nq_neg1, nq_clamp, nq_ne1, nq_le1, ne1_lt, n1_lt0, n1_lt, n1_ne, nz0, nz1, nz2, nz3, nz4, nz5, nz6, nz8, nz10, nz31, nz32, nz50, nz400, nz800, nz3200, nz20000, nlt_f, nlt_t, nle_f, nle_t, neq_f, neq_t, gi_si_e, gi_si_n, gp_sp_e, gp_sp_n, gr_sr_e, gr_sr_n, gi_sp, gi_sr, gp_si, gp_sr, gr_si, gr_sp, upd_e, upd_n, un_e, un_n, an_sn_e, an_sn_n, an_sm, an_sv, am_sn, am_sm_e, am_sm_n, am_sv, ai_sn, ai_sm, ai_sv_e, ai_sv_n, reduceIte, or_false, false_or, or_true, true_or, or_self, and_true, true_and, and_false, false_and, not_true_eq_false, not_false_eq_true], h⟩
  | succ d ih =>
    intro fu r τ hd hf hr h
    obtain ⟨fu, rfl⟩ : ∃ f, fu = f + 1 := ⟨fu - 1, by omega⟩
    have hr4 : r < 4 := by omega
    obtain ⟨τ1, k1, k2⟩ := true_eq hr4 (n := an a (10 + r)) ⟨h.mn hr4, h.n hr4, h.md, h.m, fun k hk => ⟨h.lt hr4 hk, h.mmk hr4 hk⟩⟩ (mk_vl h hr4)
    obtain ⟨τ', l1, l2⟩ := ih (fu := fu) (r := r + 1) (by omega) (by omega) (by omega) (h.ir h.cIr_refl ⟨k2.1 2, k2.1 8, k2.1 9, k2.2 1 (by decide) (by decide) (by decide) (by decide), k2.2 2 (by decide) (by decide) (by decide) (by decide), k2.2 4 (by decide) (by decide) (by decide) (by decide), k2.2 5 (by decide) (by decide) (by decide) (by decide), k2.2 6 (by decide) (by decide) (by decide) (by decide), k2.2 7 (by decide) (by decide) (by decide) (by decide), k2.2 8 (by decide) (by decide) (by decide) (by decide)⟩)
    refine ⟨τ', ?_, l2⟩
    unfold f_X11_errors_L4
    simp (disch := omega) only [↓bnd_s, ↓bnd2_s, ↓bnd3_s, ↓bnd4_s, ↓bnd5_s, ↓bndR_l, ↓bndR_r, ↓bndX_l, ↓bndX_r, bnd_s, bnd2_s, bnd3_s, bnd4_s, bnd5_s, bndR_l, bndR_r, bndX_l, bndX_r, nq_lt, nq_le, nq_inj, nq_add, nq_mul, nq_sub, nq_div, nq_neg1, nq_clamp, nq_ne1, nq_le1, ne1_lt, n1_lt0, n1_lt, n1_ne, nz0, nz1, nz2, nz3, nz4, nz5, nz6, nz8, nz10, nz31, nz32, nz50, nz400, nz800, nz3200, nz20000, nlt_f, nlt_t, nle_f, nle_t, neq_f, neq_t, gi_si_e, gi_si_n, gp_sp_e, gp_sp_n, gr_sr_e, gr_sr_n, gi_sp, gi_sr, gp_si, gp_sr, gr_si, gr_sp, upd_e, upd_n, un_e, un_n, an_sn_e, an_sn_n, an_sm, an_sv, am_sn, am_sm_e, am_sm_n, am_sv, ai_sn, ai_sm, ai_sv_e, ai_sv_n, reduceIte, or_false, false_or, or_true, true_or, or_self, and_true, true_and, and_false, false_and, not_true_eq_false, not_false_eq_true, k1, Nat.add_zero]
    exact l1
theorem P_errors (h : REL a σ τ) : AN (f_X10_errors σ) (f_X11_errors τ) := by
  obtain ⟨σ', a', k1, k2⟩ := errC_L _ (fu := FU) (r := 0) rfl (by unfold FU; omega) (by omega) h
  obtain ⟨τ', l1, l2⟩ := errM_L _ (fu := FU) (r := 0) rfl (by unfold FU; omega) (by omega) k2
  refine ⟨nI 0, σ', si τ' 10 0, a', ?_, ?_, l2.told 0⟩
  · unfold f_X10_errors
    rw [nz0, k1]; rfl
  · unfold f_X11_errors
    rw [nz0, l1, bnd2_s, told_eq]; rfl
end ER
