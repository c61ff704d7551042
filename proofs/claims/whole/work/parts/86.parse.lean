section PA
variable {b : Nat → Nat} {L : Nat} {σ τ : St}
theorem value_L (h : TX b L σ τ) {s e : Nat} (hc : gi σ 83 = nI e) (heL : e ≤ L) (hal : ∀ k, s ≤ k → k < e → al (b k) = 1) : ∀ (d : Nat) {fu i : Nat}, e - s - i = d → s + i ≤ e → d < fu →
    f_X9_valueOfNumber_L45 σ fu (nI (nvc b s i)) (nI (s + i)) = some (nI (nvc b s (e - s))) := by
  have hL := h.l
  intro d
  induction d with
  | zero =>
    intro fu i hd hi hf
    obtain ⟨fu, rfl⟩ : ∃ f, fu = f + 1 := ⟨fu - 1, by omega⟩
    have e1 : e - s = i := by omega
    rw [e1]
    unfold f_X9_valueOfNumber_L45; simp (disch := omega) only [↓bnd_s, ↓bnd2_s, ↓bnd3_s, ↓bnd4_s, ↓bnd5_s, ↓bndR_l, ↓bndR_r, ↓bndX_l, ↓bndX_r, bnd_s, bnd2_s, bnd3_s, bnd4_s, bnd5_s, bndR_l, bndR_r, bndX_l, bndX_r, nq_lt, nq_le, nq_inj, nq_add, nq_mul, nq_sub, nq_div, nq_neg1, nq_clamp, nq_ne1, nq_le1, ne1_lt, n1_lt0, n1_lt, n1_ne, nz0, nz1, nz2, nz3, nz4, nz5, nz6, nz8, nz10, nz31, nz32, nz50, nz400, nz800, nz3200, nz20000, nlt_f, nlt_t, nle_f, nle_t, neq_f, neq_t, gi_si_e, gi_si_n, gp_sp_e, gp_sp_n, gr_sr_e, gr_sr_n, gi_sp, gi_sr, gp_si, gp_sr, gr_si, gr_sp, upd_e, upd_n, un_e, un_n, an_sn_e, an_sn_n, an_sm, an_sv, am_sn, am_sm_e, am_sm_n, am_sv, ai_sn, ai_sm, ai_sv_e, ai_sv_n, reduceIte, or_false, false_or, or_true, true_or, or_self, and_true, true_and, and_false, false_and, not_true_eq_false, not_false_eq_true, hc]
  | succ d ih =>
    intro fu i hd hi hf
    obtain ⟨fu, rfl⟩ : ∃ f, fu = f + 1 := ⟨fu - 1, by omega⟩
    have hs2 : s + i < L := by omega
    have hb := h.by9 hs2
    obtain ⟨g1, g2, g3⟩ := (by_all (b (s + i)) (by omega)).2.2.2.2.2.2.2.1 (hal (s + i) (by omega) (by omega))
    have := ih (fu := fu) (i := i + 1) (by omega) (by omega) (by omega)
    unfold f_X9_valueOfNumber_L45
    rw [show (48 : Int32) = nI 48 from rfl]
    simp (disch := omega) only [↓bnd_s, ↓bnd2_s, ↓bnd3_s, ↓bnd4_s, ↓bnd5_s, ↓bndR_l, ↓bndR_r, ↓bndX_l, ↓bndX_r, bnd_s, bnd2_s, bnd3_s, bnd4_s, bnd5_s, bndR_l, bndR_r, bndX_l, bndX_r, nq_lt, nq_le, nq_inj, nq_add, nq_mul, nq_sub, nq_div, nq_neg1, nq_clamp, nq_ne1, nq_le1, ne1_lt, n1_lt0, n1_lt, n1_ne, nz0, nz1, nz2, nz3, nz4, nz5, nz6, nz8, nz10, nz31, nz32, nz50, nz400, nz800, nz3200, nz20000, nlt_f, nlt_t, nle_f, nle_t, neq_f, neq_t, gi_si_e, gi_si_n, gp_sp_e, gp_sp_n, gr_sr_e, gr_sr_n, gi_sp, gi_sr, gp_si, gp_sr, gr_si, gr_sp, upd_e, upd_n, un_e, un_n, an_sn_e, an_sn_n, an_sm, an_sv, am_sn, am_sm_e, am_sm_n, am_sv, ai_sn, ai_sm, ai_sv_e, ai_sv_n, reduceIte, or_false, false_or, or_true, true_or, or_self, and_true, true_and, and_false, false_and, not_true_eq_false, not_false_eq_true, hc, h.cb hs2, g1]
    rw [show nvc b s i * 10 + (b (s + i) - 48) = nvc b s (i + 1) from by rw [Nat.mul_comm]; rfl]
    exact this
theorem value_eq (h : TX b L σ τ) {s e : Nat} (t : TOK b L s e σ τ) :
    (s < L ∧ s < e ∧ al (b s) = 1 ∧ e - s ≤ 4 ∧ (e < L → al (b e) ≠ 1) ∧ nvc b s (e - s) < 10000 ∧ f_X9_valueOfNumber σ = some (nI (nvc b s (e - s))) ∧ gi τ 14 = nI 2 ∧ gi τ 16 = nI (nvc b s (e - s))) ∨
    (f_X9_valueOfNumber σ = some (-nI 1) ∧ (gi τ 14 ≠ nI 2 ∨ (gi τ 14 = nI 2 ∧ gi τ 16 = nI 10000))) := by
  have hL := h.l
  have hse := t.se
  have heL := t.eL
  rcases t.2.2.2.2.2.2 with ⟨q1, q2⟩ | ⟨q1, q2, q3, q4, q5, q6⟩
  · refine Or.inr ⟨?_, Or.inl ?_⟩
    · unfold f_X9_valueOfNumber f_X9_isAtEnd; simp (disch := omega) only [↓bnd_s, ↓bnd2_s, ↓bnd3_s, ↓bnd4_s, ↓bnd5_s, ↓bndR_l, ↓bndR_r, ↓bndX_l, ↓bndX_r, bnd_s, bnd2_s, bnd3_s, bnd4_s, bnd5_s, bndR_l, bndR_r, bndX_l, bndX_r, nq_lt, nq_le, nq_inj, nq_add, nq_mul, nq_sub, nq_div, nq_neg1, nq_clamp, nq_ne1, nq_le1, ne1_lt, n1_lt0, n1_lt, n1_ne, nz0, nz1, nz2, nz3, nz4, nz5, nz6, nz8, nz10, nz31, nz32, nz50, nz400, nz800, nz3200, nz20000, nlt_f, nlt_t, nle_f, nle_t, neq_f, neq_t, gi_si_e, gi_si_n, gp_sp_e, gp_sp_n, gr_sr_e, gr_sr_n, gi_sp, gi_sr, gp_si, gp_sr, gr_si, gr_sp, upd_e, upd_n, un_e, un_n, an_sn_e, an_sn_n, an_sm, an_sv, am_sn, am_sm_e, am_sm_n, am_sv, ai_sn, ai_sm, ai_sv_e, ai_sv_n, reduceIte, or_false, false_or, or_true, true_or, or_self, and_true, true_and, and_false, false_and, not_true_eq_false, not_false_eq_true, t.c82, h.cL]
    · rw [q2]; decide +kernel
  · have hb := h.by9 q1
    have a1 := (by_all (b s) (by omega)).1
    have h16 := (tcd_r (b s)).2
    by_cases ea : al (b s) = 1
    · obtain ⟨r1, r2, r3⟩ := q5 ea
      by_cases e4 : e - s ≤ 4
      · have hv := value_L h t.c83 heL r1 _ (fu := FU) (i := 0) rfl (by omega) (by unfold FU; omega)
        rw [Nat.add_zero, show nvc b s 0 = 0 from rfl] at hv
        have hlt : nvc b s (e - s) < 10 ^ (e - s) := nvc_lt fun i hi => ⟨r1 (s + i) (by omega) (by omega), by have := h.by9 (show s + i < L by omega); omega⟩
        have hlt2 : 10 ^ (e - s) ≤ 10 ^ 4 := Nat.pow_le_pow_right (by decide) e4
        refine Or.inl ⟨q1, q2, ea, e4, r2, by omega, ?_, by rw [q3, tcd_1 ea], by rw [r3]; unfold nu; rw [if_pos e4]⟩
        unfold f_X9_valueOfNumber f_X9_isAtEnd; simp (disch := omega) only [↓bnd_s, ↓bnd2_s, ↓bnd3_s, ↓bnd4_s, ↓bnd5_s, ↓bndR_l, ↓bndR_r, ↓bndX_l, ↓bndX_r, bnd_s, bnd2_s, bnd3_s, bnd4_s, bnd5_s, bndR_l, bndR_r, bndX_l, bndX_r, nq_lt, nq_le, nq_inj, nq_add, nq_mul, nq_sub, nq_div, nq_neg1, nq_clamp, nq_ne1, nq_le1, ne1_lt, n1_lt0, n1_lt, n1_ne, nz0, nz1, nz2, nz3, nz4, nz5, nz6, nz8, nz10, nz31, nz32, nz50, nz400, nz800, nz3200, nz20000, nlt_f, nlt_t, nle_f, nle_t, neq_f, neq_t, gi_si_e, gi_si_n, gp_sp_e, gp_sp_n, gr_sr_e, gr_sr_n, gi_sp, gi_sr, gp_si, gp_sr, gr_si, gr_sp, upd_e, upd_n, un_e, un_n, an_sn_e, an_sn_n, an_sm, an_sv, am_sn, am_sm_e, am_sm_n, am_sv, ai_sn, ai_sm, ai_sv_e, ai_sv_n, reduceIte, or_false, false_or, or_true, true_or, or_self, and_true, true_and, and_false, false_and, not_true_eq_false, not_false_eq_true, t.c82, t.c83, h.cL, h.cb q1, a1, ea, hv]
      · refine Or.inr ⟨?_, Or.inr ⟨by rw [q3, tcd_1 ea], by rw [r3]; unfold nu; rw [if_neg e4]⟩⟩
        unfold f_X9_valueOfNumber f_X9_isAtEnd; simp (disch := omega) only [↓bnd_s, ↓bnd2_s, ↓bnd3_s, ↓bnd4_s, ↓bnd5_s, ↓bndR_l, ↓bndR_r, ↓bndX_l, ↓bndX_r, bnd_s, bnd2_s, bnd3_s, bnd4_s, bnd5_s, bndR_l, bndR_r, bndX_l, bndX_r, nq_lt, nq_le, nq_inj, nq_add, nq_mul, nq_sub, nq_div, nq_neg1, nq_clamp, nq_ne1, nq_le1, ne1_lt, n1_lt0, n1_lt, n1_ne, nz0, nz1, nz2, nz3, nz4, nz5, nz6, nz8, nz10, nz31, nz32, nz50, nz400, nz800, nz3200, nz20000, nlt_f, nlt_t, nle_f, nle_t, neq_f, neq_t, gi_si_e, gi_si_n, gp_sp_e, gp_sp_n, gr_sr_e, gr_sr_n, gi_sp, gi_sr, gp_si, gp_sr, gr_si, gr_sp, upd_e, upd_n, un_e, un_n, an_sn_e, an_sn_n, an_sm, an_sv, am_sn, am_sm_e, am_sm_n, am_sv, ai_sn, ai_sm, ai_sv_e, ai_sv_n, reduceIte, or_false, false_or, or_true, true_or, or_self, and_true, true_and, and_false, false_and, not_true_eq_false, not_false_eq_true, t.c82, t.c83, h.cL, h.cb q1, a1, ea]
    · refine Or.inr ⟨?_, Or.inl (fun e => ?_)⟩
      · unfold f_X9_valueOfNumber f_X9_isAtEnd
        by_cases ea0 : al (b s) = 0
        · simp (disch := omega) only [↓bnd_s, ↓bnd2_s, ↓bnd3_s, ↓bnd4_s, ↓bnd5_s, ↓bndR_l, ↓bndR_r, ↓bndX_l, ↓bndX_r, bnd_s, bnd2_s, bnd3_s, bnd4_s, bnd5_s, bndR_l, bndR_r, bndX_l, bndX_r, nq_lt, nq_le, nq_inj, nq_add, nq_mul, nq_sub, nq_div, nq_neg1, nq_clamp, nq_ne1, nq_le1, ne1_lt, n1_lt0, n1_lt, n1_ne, nz0, nz1, nz2, nz3, nz4, nz5, nz6, nz8, nz10, nz31, nz32, nz50, nz400, nz800, nz3200, nz20000, nlt_f, nlt_t, nle_f, nle_t, neq_f, neq_t, gi_si_e, gi_si_n, gp_sp_e, gp_sp_n, gr_sr_e, gr_sr_n, gi_sp, gi_sr, gp_si, gp_sr, gr_si, gr_sp, upd_e, upd_n, un_e, un_n, an_sn_e, an_sn_n, an_sm, an_sv, am_sn, am_sm_e, am_sm_n, am_sv, ai_sn, ai_sm, ai_sv_e, ai_sv_n, reduceIte, or_false, false_or, or_true, true_or, or_self, and_true, true_and, and_false, false_and, not_true_eq_false, not_false_eq_true, t.c82, t.c83, h.cL, h.cb q1, a1, ea, ea0]
        · simp (disch := omega) only [↓bnd_s, ↓bnd2_s, ↓bnd3_s, ↓bnd4_s, ↓bnd5_s, ↓bndR_l, ↓bndR_r, ↓bndX_l, ↓bndX_r, bnd_s, bnd2_s, bnd3_s, bnd4_s, bnd5_s, bndR_l, bndR_r, bndX_l, bndX_r, nq_lt, nq_le, nq_inj, nq_add, nq_mul, nq_sub, nq_div, nq_neg1, nq_clamp, nq_ne1, nq_le1, ne1_lt, n1_lt0, n1_lt, n1_ne, nz0, nz1, nz2, nz3, nz4, nz5, nz6, nz8, nz10, nz31, nz32, nz50, nz400, nz800, nz3200, nz20000, nlt_f, nlt_t, nle_f, nle_t, neq_f, neq_t, gi_si_e, gi_si_n, gp_sp_e, gp_sp_n, gr_sr_e, gr_sr_n, gi_sp, gi_sr, gp_si, gp_sr, gr_si, gr_sp, upd_e, upd_n, un_e, un_n, an_sn_e, an_sn_n, an_sm, an_sv, am_sn, am_sm_e, am_sm_n, am_sv, ai_sn, ai_sm, ai_sv_e, ai_sv_n, reduceIte, or_false, false_or, or_true, true_or, or_self, and_true, true_and, and_false, false_and, not_true_eq_false, not_false_eq_true, t.c82, t.c83, h.cL, h.cb q1, a1, ea, ea0]
      · rw [q3, nq_inj (by omega) (by omega)] at e
        exact ea (tcd_e2.mp e)
theorem isWrong_eq (hw : gi τ 17 = -nI 1) : f_X11_isWrong τ = some (si τ 17 (gi τ 15)) := by
  unfold f_X11_isWrong
  simp (disch := omega) only [↓bnd_s, ↓bnd2_s, ↓bnd3_s, ↓bnd4_s, ↓bnd5_s, ↓bndR_l, ↓bndR_r, ↓bndX_l, ↓bndX_r, bnd_s, bnd2_s, bnd3_s, bnd4_s, bnd5_s, bndR_l, bndR_r, bndX_l, bndX_r, nq_lt, nq_le, nq_inj, nq_add, nq_mul, nq_sub, nq_div, nq_neg1, nq_clamp, nq_ne1, nq_le1, ne1_lt, n1_lt0, n1_lt, n1_ne, nz0, nz1, nz2, nz3, nz4, nz5, nz6, nz8, nz10, nz31, nz32, nz50, nz400, nz800, nz3200, nz20000, nlt_f, nlt_t, nle_f, nle_t, neq_f, neq_t, gi_si_e, gi_si_n, gp_sp_e, gp_sp_n, gr_sr_e, gr_sr_n, gi_sp, gi_sr, gp_si, gp_sr, gr_si, gr_sp, upd_e, upd_n, un_e, un_n, an_sn_e, an_sn_n, an_sm, an_sv, am_sn, am_sm_e, am_sm_n, am_sv, ai_sn, ai_sm, ai_sv_e, ai_sv_n, reduceIte, or_false, false_or, or_true, true_or, or_self, and_true, true_and, and_false, false_and, not_true_eq_false, not_false_eq_true, hw]
theorem num_lock (h : TX b L σ τ) {s e lo hi : Nat} (t : TOK b L s e σ τ) (hlo : lo ≤ hi) (hhi : hi ≤ 9999) (hw : gi τ 17 = -nI 1) :
    (∃ (v : Nat) (σ' τ' : St) (s' e' : Nat), lo ≤ v ∧ v ≤ hi ∧ f_X5_readNumber (nI lo) (nI hi) σ = some (nI v, σ') ∧ f_X11_takesNumber (nI lo) (nI hi) τ = some (nI v, τ') ∧ TOK b L s' e' σ' τ' ∧ s + 1 ≤ s' ∧ al (b s) = 1 ∧ (al (b s') = 1 → s' < L → s + 2 ≤ s') ∧ tC σ σ' ∧ tM τ τ') ∨
    (f_X5_readNumber (nI lo) (nI hi) σ = some (-nI 1, σ) ∧ f_X11_takesNumber (nI lo) (nI hi) τ = some (nI lo, si τ 17 (nI s))) := by
  have hL := h.l
  have heL := t.eL
  have no : (∀ v : Int32, f_X9_valueOfNumber σ = some v → f_X5_readNumber (nI lo) (nI hi) σ = some (-nI 1, σ)) → (gi τ 14 ≠ nI 2 ∨ (∃ q, q < 20000 ∧ gi τ 14 = nI 2 ∧ gi τ 16 = nI q ∧ (q < lo ∨ hi < q))) → ∀ v : Int32, f_X9_valueOfNumber σ = some v →
      (f_X5_readNumber (nI lo) (nI hi) σ = some (-nI 1, σ) ∧ f_X11_takesNumber (nI lo) (nI hi) τ = some (nI lo, si τ 17 (nI s))) := by
    intro g1 g2 v hv
    refine ⟨g1 v hv, ?_⟩
    unfold f_X11_takesNumber f_X11_in
    rcases g2 with g2 | ⟨q, q0, q1, q2, q3⟩
    · simp (disch := omega) only [↓bnd_s, ↓bnd2_s, ↓bnd3_s, ↓bnd4_s, ↓bnd5_s, ↓bndR_l, ↓bndR_r, ↓bndX_l, ↓bndX_r, bnd_s, bnd2_s, bnd3_s, bnd4_s, bnd5_s, bndR_l, bndR_r, bndX_l, bndX_r, nq_lt, nq_le, nq_inj, nq_add, nq_mul, nq_sub, nq_div, nq_neg1, nq_clamp, nq_ne1, nq_le1, ne1_lt, n1_lt0, n1_lt, n1_ne, nz0, nz1, nz2, nz3, nz4, nz5, nz6, nz8, nz10, nz31, nz32, nz50, nz400, nz800, nz3200, nz20000, nlt_f, nlt_t, nle_f, nle_t, neq_f, neq_t, gi_si_e, gi_si_n, gp_sp_e, gp_sp_n, gr_sr_e, gr_sr_n, gi_sp, gi_sr, gp_si, gp_sr, gr_si, gr_sp, upd_e, upd_n, un_e, un_n, an_sn_e, an_sn_n, an_sm, an_sv, am_sn, am_sm_e, am_sm_n, am_sv, ai_sn, ai_sm, ai_sv_e, ai_sv_n, reduceIte, or_false, false_or, or_true, true_or, or_self, and_true, true_and, and_false, false_and, not_true_eq_false, not_false_eq_true, g2, isWrong_eq hw, t.m15]
    · by_cases q4 : q < lo
      · simp (disch := omega) only [↓bnd_s, ↓bnd2_s, ↓bnd3_s, ↓bnd4_s, ↓bnd5_s, ↓bndR_l, ↓bndR_r, ↓bndX_l, ↓bndX_r, bnd_s, bnd2_s, bnd3_s, bnd4_s, bnd5_s, bndR_l, bndR_r, bndX_l, bndX_r, nq_lt, nq_le, nq_inj, nq_add, nq_mul, nq_sub, nq_div, nq_neg1, nq_clamp, nq_ne1, nq_le1, ne1_lt, n1_lt0, n1_lt, n1_ne, nz0, nz1, nz2, nz3, nz4, nz5, nz6, nz8, nz10, nz31, nz32, nz50, nz400, nz800, nz3200, nz20000, nlt_f, nlt_t, nle_f, nle_t, neq_f, neq_t, gi_si_e, gi_si_n, gp_sp_e, gp_sp_n, gr_sr_e, gr_sr_n, gi_sp, gi_sr, gp_si, gp_sr, gr_si, gr_sp, upd_e, upd_n, un_e, un_n, an_sn_e, an_sn_n, an_sm, an_sv, am_sn, am_sm_e, am_sm_n, am_sv, ai_sn, ai_sm, ai_sv_e, ai_sv_n, reduceIte, or_false, false_or, or_true, true_or, or_self, and_true, true_and, and_false, false_and, not_true_eq_false, not_false_eq_true, q1, q2, q4, isWrong_eq hw, t.m15]
      · simp (disch := omega) only [↓bnd_s, ↓bnd2_s, ↓bnd3_s, ↓bnd4_s, ↓bnd5_s, ↓bndR_l, ↓bndR_r, ↓bndX_l, ↓bndX_r, bnd_s, bnd2_s, bnd3_s, bnd4_s, bnd5_s, bndR_l, bndR_r, bndX_l, bndX_r, nq_lt, nq_le, nq_inj, nq_add, nq_mul, nq_sub, nq_div, nq_neg1, nq_clamp, nq_ne1, nq_le1, ne1_lt, n1_lt0, n1_lt, n1_ne, nz0, nz1, nz2, nz3, nz4, nz5, nz6, nz8, nz10, nz31, nz32, nz50, nz400, nz800, nz3200, nz20000, nlt_f, nlt_t, nle_f, nle_t, neq_f, neq_t, gi_si_e, gi_si_n, gp_sp_e, gp_sp_n, gr_sr_e, gr_sr_n, gi_sp, gi_sr, gp_si, gp_sr, gr_si, gr_sp, upd_e, upd_n, un_e, un_n, an_sn_e, an_sn_n, an_sm, an_sv, am_sn, am_sm_e, am_sm_n, am_sv, ai_sn, ai_sm, ai_sv_e, ai_sv_n, reduceIte, or_false, false_or, or_true, true_or, or_self, and_true, true_and, and_false, false_and, not_true_eq_false, not_false_eq_true, q1, q2, q4, isWrong_eq hw, t.m15]
  rcases value_eq h t with ⟨v1, v2, v3, v4, v5, v6, v7, v8, v9⟩ | ⟨v1, v2⟩
  · by_cases ok : lo ≤ nvc b s (e - s) ∧ nvc b s (e - s) ≤ hi
    · obtain ⟨σ', τ', s', e', n1, n2, n3, n4, n5, n6⟩ := next_lock h t.c83 t.m13 heL
      refine Or.inl ⟨nvc b s (e - s), σ', τ', s', e', ok.1, ok.2, ?_, ?_, n3, by omega, v3, fun a1 a2 => ?_, n5, n6⟩
      · unfold f_X5_readNumber; rw [v7]; simp (disch := omega) only [↓bnd_s, ↓bnd2_s, ↓bnd3_s, ↓bnd4_s, ↓bnd5_s, ↓bndR_l, ↓bndR_r, ↓bndX_l, ↓bndX_r, bnd_s, bnd2_s, bnd3_s, bnd4_s, bnd5_s, bndR_l, bndR_r, bndX_l, bndX_r, nq_lt, nq_le, nq_inj, nq_add, nq_mul, nq_sub, nq_div, nq_neg1, nq_clamp, nq_ne1, nq_le1, ne1_lt, n1_lt0, n1_lt, n1_ne, nz0, nz1, nz2, nz3, nz4, nz5, nz6, nz8, nz10, nz31, nz32, nz50, nz400, nz800, nz3200, nz20000, nlt_f, nlt_t, nle_f, nle_t, neq_f, neq_t, gi_si_e, gi_si_n, gp_sp_e, gp_sp_n, gr_sr_e, gr_sr_n, gi_sp, gi_sr, gp_si, gp_sr, gr_si, gr_sp, upd_e, upd_n, un_e, un_n, an_sn_e, an_sn_n, an_sm, an_sv, am_sn, am_sm_e, am_sm_n, am_sv, ai_sn, ai_sm, ai_sv_e, ai_sv_n, reduceIte, or_false, false_or, or_true, true_or, or_self, and_true, true_and, and_false, false_and, not_true_eq_false, not_false_eq_true, n1]
      · unfold f_X11_takesNumber f_X11_in; simp (disch := omega) only [↓bnd_s, ↓bnd2_s, ↓bnd3_s, ↓bnd4_s, ↓bnd5_s, ↓bndR_l, ↓bndR_r, ↓bndX_l, ↓bndX_r, bnd_s, bnd2_s, bnd3_s, bnd4_s, bnd5_s, bndR_l, bndR_r, bndX_l, bndX_r, nq_lt, nq_le, nq_inj, nq_add, nq_mul, nq_sub, nq_div, nq_neg1, nq_clamp, nq_ne1, nq_le1, ne1_lt, n1_lt0, n1_lt, n1_ne, nz0, nz1, nz2, nz3, nz4, nz5, nz6, nz8, nz10, nz31, nz32, nz50, nz400, nz800, nz3200, nz20000, nlt_f, nlt_t, nle_f, nle_t, neq_f, neq_t, gi_si_e, gi_si_n, gp_sp_e, gp_sp_n, gr_sr_e, gr_sr_n, gi_sp, gi_sr, gp_si, gp_sr, gr_si, gr_sp, upd_e, upd_n, un_e, un_n, an_sn_e, an_sn_n, an_sm, an_sv, am_sn, am_sm_e, am_sm_n, am_sv, ai_sn, ai_sm, ai_sv_e, ai_sv_n, reduceIte, or_false, false_or, or_true, true_or, or_self, and_true, true_and, and_false, false_and, not_true_eq_false, not_false_eq_true, v8, v9, n2]
      · by_cases es : s' = e
        · subst es; exact absurd a1 (v5 a2)
        · omega
    · refine Or.inr (no (fun v hv => ?_) (Or.inr ⟨_, by omega, v8, v9, by omega⟩) _ v7)
      unfold f_X5_readNumber; rw [v7]
      by_cases q4 : nvc b s (e - s) < lo
      · simp (disch := omega) only [↓bnd_s, ↓bnd2_s, ↓bnd3_s, ↓bnd4_s, ↓bnd5_s, ↓bndR_l, ↓bndR_r, ↓bndX_l, ↓bndX_r, bnd_s, bnd2_s, bnd3_s, bnd4_s, bnd5_s, bndR_l, bndR_r, bndX_l, bndX_r, nq_lt, nq_le, nq_inj, nq_add, nq_mul, nq_sub, nq_div, nq_neg1, nq_clamp, nq_ne1, nq_le1, ne1_lt, n1_lt0, n1_lt, n1_ne, nz0, nz1, nz2, nz3, nz4, nz5, nz6, nz8, nz10, nz31, nz32, nz50, nz400, nz800, nz3200, nz20000, nlt_f, nlt_t, nle_f, nle_t, neq_f, neq_t, gi_si_e, gi_si_n, gp_sp_e, gp_sp_n, gr_sr_e, gr_sr_n, gi_sp, gi_sr, gp_si, gp_sr, gr_si, gr_sp, upd_e, upd_n, un_e, un_n, an_sn_e, an_sn_n, an_sm, an_sv, am_sn, am_sm_e, am_sm_n, am_sv, ai_sn, ai_sm, ai_sv_e, ai_sv_n, reduceIte, or_false, false_or, or_true, true_or, or_self, and_true, true_and, and_false, false_and, not_true_eq_false, not_false_eq_true, q4]
      · simp (disch := omega) only [↓bnd_s, ↓bnd2_s, ↓bnd3_s, ↓bnd4_s, ↓bnd5_s, ↓bndR_l, ↓bndR_r, ↓bndX_l, ↓bndX_r, bnd_s, bnd2_s, bnd3_s, bnd4_s, bnd5_s, bndR_l, bndR_r, bndX_l, bndX_r, nq_lt, nq_le, nq_inj, nq_add, nq_mul, nq_sub, nq_div, nq_neg1, nq_clamp, nq_ne1, nq_le1, ne1_lt, n1_lt0, n1_lt, n1_ne, nz0, nz1, nz2, nz3, nz4, nz5, nz6, nz8, nz10, nz31, nz32, nz50, nz400, nz800, nz3200, nz20000, nlt_f, nlt_t, nle_f, nle_t, neq_f, neq_t, gi_si_e, gi_si_n, gp_sp_e, gp_sp_n, gr_sr_e, gr_sr_n, gi_sp, gi_sr, gp_si, gp_sr, gr_si, gr_sp, upd_e, upd_n, un_e, un_n, an_sn_e, an_sn_n, an_sm, an_sv, am_sn, am_sm_e, am_sm_n, am_sv, ai_sn, ai_sm, ai_sv_e, ai_sv_n, reduceIte, or_false, false_or, or_true, true_or, or_self, and_true, true_and, and_false, false_and, not_true_eq_false, not_false_eq_true, q4]
  · refine Or.inr (no (fun v hv => ?_) ?_ _ v1)
    · unfold f_X5_readNumber; rw [v1]
      have : (-nI 1 < nI lo) := by rw [ne1_lt (by omega)]; trivial
      simp (disch := omega) only [↓bnd_s, ↓bnd2_s, ↓bnd3_s, ↓bnd4_s, ↓bnd5_s, ↓bndR_l, ↓bndR_r, ↓bndX_l, ↓bndX_r, bnd_s, bnd2_s, bnd3_s, bnd4_s, bnd5_s, bndR_l, bndR_r, bndX_l, bndX_r, nq_lt, nq_le, nq_inj, nq_add, nq_mul, nq_sub, nq_div, nq_neg1, nq_clamp, nq_ne1, nq_le1, ne1_lt, n1_lt0, n1_lt, n1_ne, nz0, nz1, nz2, nz3, nz4, nz5, nz6, nz8, nz10, nz31, nz32, nz50, nz400, nz800, nz3200, nz20000, nlt_f, nlt_t, nle_f, nle_t, neq_f, neq_t, gi_si_e, gi_si_n, gp_sp_e, gp_sp_n, gr_sr_e, gr_sr_n, gi_sp, gi_sr, gp_si, gp_sr, gr_si, gr_sp, upd_e, upd_n, un_e, un_n, an_sn_e, an_sn_n, an_sm, an_sv, am_sn, am_sm_e, am_sm_n, am_sv, ai_sn, ai_sm, ai_sv_e, ai_sv_n, reduceIte, or_false, false_or, or_true, true_or, or_self, and_true, true_and, and_false, false_and, not_true_eq_false, not_false_eq_true]
    · rcases v2 with v2 | ⟨v2, v3⟩
      · exact Or.inl v2
      · exact Or.inr ⟨10000, by omega, v2, v3, by omega⟩
theorem read_yes (h : TX b L σ τ) {s e w : Nat} (t : TOK b L s e σ τ) (hw : w < 9) (m : Mt b s e w) :
    ∃ (σ' τ' : St) (s' e' : Nat), f_X5_readToken w σ = some (nI 1, σ') ∧ f_X11_next τ = some τ' ∧ TOK b L s' e' σ' τ' ∧ s + wl w ≤ s' ∧ tC σ σ' ∧ tM τ τ' := by
  obtain ⟨σ', τ', s', e', n1, n2, n3, n4, n5, n6⟩ := next_lock h t.c83 t.m13 t.eL
  have hse := t.se
  refine ⟨σ', τ', s', e', ?_, n2, n3, by have := m.1; omega, n5, n6⟩
  rcases tok_eq h t hw with ⟨-, g⟩ | ⟨g, -⟩
  · unfold f_X5_readToken; rw [g]; simp (disch := omega) only [↓bnd_s, ↓bnd2_s, ↓bnd3_s, ↓bnd4_s, ↓bnd5_s, ↓bndR_l, ↓bndR_r, ↓bndX_l, ↓bndX_r, bnd_s, bnd2_s, bnd3_s, bnd4_s, bnd5_s, bndR_l, bndR_r, bndX_l, bndX_r, nq_lt, nq_le, nq_inj, nq_add, nq_mul, nq_sub, nq_div, nq_neg1, nq_clamp, nq_ne1, nq_le1, ne1_lt, n1_lt0, n1_lt, n1_ne, nz0, nz1, nz2, nz3, nz4, nz5, nz6, nz8, nz10, nz31, nz32, nz50, nz400, nz800, nz3200, nz20000, nlt_f, nlt_t, nle_f, nle_t, neq_f, neq_t, gi_si_e, gi_si_n, gp_sp_e, gp_sp_n, gr_sr_e, gr_sr_n, gi_sp, gi_sr, gp_si, gp_sr, gr_si, gr_sp, upd_e, upd_n, un_e, un_n, an_sn_e, an_sn_n, an_sm, an_sv, am_sn, am_sm_e, am_sm_n, am_sv, ai_sn, ai_sm, ai_sv_e, ai_sv_n, reduceIte, or_false, false_or, or_true, true_or, or_self, and_true, true_and, and_false, false_and, not_true_eq_false, not_false_eq_true, n1]
  · exact absurd m g
theorem read_no (h : TX b L σ τ) {s e w : Nat} (t : TOK b L s e σ τ) (hw : w < 9) (m : ¬ Mt b s e w) : f_X5_readToken w σ = some (nI 0, σ) := by
  rcases tok_eq h t hw with ⟨g, -⟩ | ⟨-, g⟩
  · exact absurd g m
  · unfold f_X5_readToken; rw [g]; simp (disch := omega) only [↓bnd_s, ↓bnd2_s, ↓bnd3_s, ↓bnd4_s, ↓bnd5_s, ↓bndR_l, ↓bndR_r, ↓bndX_l, ↓bndX_r, bnd_s, bnd2_s, bnd3_s, bnd4_s, bnd5_s, bndR_l, bndR_r, bndX_l, bndX_r, nq_lt, nq_le, nq_inj, nq_add, nq_mul, nq_sub, nq_div, nq_neg1, nq_clamp, nq_ne1, nq_le1, ne1_lt, n1_lt0, n1_lt, n1_ne, nz0, nz1, nz2, nz3, nz4, nz5, nz6, nz8, nz10, nz31, nz32, nz50, nz400, nz800, nz3200, nz20000, nlt_f, nlt_t, nle_f, nle_t, neq_f, neq_t, gi_si_e, gi_si_n, gp_sp_e, gp_sp_n, gr_sr_e, gr_sr_n, gi_sp, gi_sr, gp_si, gp_sr, gr_si, gr_sp, upd_e, upd_n, un_e, un_n, an_sn_e, an_sn_n, an_sm, an_sv, am_sn, am_sm_e, am_sm_n, am_sv, ai_sn, ai_sm, ai_sv_e, ai_sv_n, reduceIte, or_false, false_or, or_true, true_or, or_self, and_true, true_and, and_false, false_and, not_true_eq_false, not_false_eq_true]
theorem Mt_uniq {s e w w' : Nat} (hw : w < 6) (hw' : w' < 6) (m : Mt b s e w) (m' : Mt b s e w') : w = w' := by
  have key : ∀ w : Nat, w < 6 → ∀ w' : Nat, w' < 6 → w = w' ∨ wl w ≠ wl w' ∨ (wl w = wl w' ∧ ∃ k, k < 5 ∧ k < wl w ∧ wd w k ≠ wd w' k) := by
    have d : ∀ w : Nat, w < 6 → ∀ w' : Nat, w' < 6 → w = w' ∨ wl w ≠ wl w' ∨ (wl w = wl w' ∧ (wd w 0 ≠ wd w' 0)) := by decide +kernel
    intro w h1 w' h2
    rcases d w h1 w' h2 with q | q | ⟨q1, q2⟩
    · exact Or.inl q
    · exact Or.inr (Or.inl q)
    · exact Or.inr (Or.inr ⟨q1, 0, by decide, by have := wl_le w (by omega); omega, q2⟩)
  rcases key w hw w' hw' with q | q | ⟨q0, k, q1, q2, q3⟩
  · exact q
  · exact absurd (m.1.symm.trans m'.1) q
  · exact absurd ((m.2 k q2).symm.trans (m'.2 k (by omega))) q3
theorem kind_L (h : TX b L σ τ) {s e c : Nat} (t : TOK b L s e σ τ) : ∀ (d : Nat) {fu i : Nat}, 6 - i = d → i ≤ 6 → d < fu → (∀ j, j < i → ¬ Mt b s e j) →
    (∃ k σ', i ≤ k ∧ k < 6 ∧ Mt b s e k ∧ f_X5_readToken k σ = some (nI 1, σ') ∧ f_X5_readKind_L2 c fu (nI i) σ = some (.inl (nI 1, sp σ' (8 * c) k))) ∨ ((∀ j, j < 6 → ¬ Mt b s e j) ∧ f_X5_readKind_L2 c fu (nI i) σ = some (.inr σ)) := by
  intro d
  induction d with
  | zero =>
    intro fu i hd hi hf hno
    obtain ⟨fu, rfl⟩ : ∃ f, fu = f + 1 := ⟨fu - 1, by omega⟩
    refine Or.inr ⟨fun j hj => hno j (by omega), ?_⟩
    unfold f_X5_readKind_L2; simp (disch := omega) only [↓bnd_s, ↓bnd2_s, ↓bnd3_s, ↓bnd4_s, ↓bnd5_s, ↓bndR_l, ↓bndR_r, ↓bndX_l, ↓bndX_r, bnd_s, bnd2_s, bnd3_s, bnd4_s, bnd5_s, bndR_l, bndR_r, bndX_l, bndX_r, nq_lt, nq_le, nq_inj, nq_add, nq_mul, nq_sub, nq_div, nq_neg1, nq_clamp, nq_ne1, nq_le1, ne1_lt, n1_lt0, n1_lt, n1_ne, nz0, nz1, nz2, nz3, nz4, nz5, nz6, nz8, nz10, nz31, nz32, nz50, nz400, nz800, nz3200, nz20000, nlt_f, nlt_t, nle_f, nle_t, neq_f, neq_t, gi_si_e, gi_si_n, gp_sp_e, gp_sp_n, gr_sr_e, gr_sr_n, gi_sp, gi_sr, gp_si, gp_sr, gr_si, gr_sp, upd_e, upd_n, un_e, un_n, an_sn_e, an_sn_n, an_sm, an_sv, am_sn, am_sm_e, am_sm_n, am_sv, ai_sn, ai_sm, ai_sv_e, ai_sv_n, reduceIte, or_false, false_or, or_true, true_or, or_self, and_true, true_and, and_false, false_and, not_true_eq_false, not_false_eq_true]
  | succ d ih =>
    intro fu i hd hi hf hno
    obtain ⟨fu, rfl⟩ : ∃ f, fu = f + 1 := ⟨fu - 1, by omega⟩
    by_cases m : Mt b s e i
    · obtain ⟨σ', τ', s', e', n1, -⟩ := read_yes h t (show i < 9 by omega) m
      refine Or.inl ⟨i, σ', by omega, by omega, m, n1, ?_⟩
      unfold f_X5_readKind_L2; simp (disch := omega) only [↓bnd_s, ↓bnd2_s, ↓bnd3_s, ↓bnd4_s, ↓bnd5_s, ↓bndR_l, ↓bndR_r, ↓bndX_l, ↓bndX_r, bnd_s, bnd2_s, bnd3_s, bnd4_s, bnd5_s, bndR_l, bndR_r, bndX_l, bndX_r, nq_lt, nq_le, nq_inj, nq_add, nq_mul, nq_sub, nq_div, nq_neg1, nq_clamp, nq_ne1, nq_le1, ne1_lt, n1_lt0, n1_lt, n1_ne, nz0, nz1, nz2, nz3, nz4, nz5, nz6, nz8, nz10, nz31, nz32, nz50, nz400, nz800, nz3200, nz20000, nlt_f, nlt_t, nle_f, nle_t, neq_f, neq_t, gi_si_e, gi_si_n, gp_sp_e, gp_sp_n, gr_sr_e, gr_sr_n, gi_sp, gi_sr, gp_si, gp_sr, gr_si, gr_sp, upd_e, upd_n, un_e, un_n, an_sn_e, an_sn_n, an_sm, an_sv, am_sn, am_sm_e, am_sm_n, am_sv, ai_sn, ai_sm, ai_sv_e, ai_sv_n, reduceIte, or_false, false_or, or_true, true_or, or_self, and_true, true_and, and_false, false_and, not_true_eq_false, not_false_eq_true, n1]
    · have n1 := read_no h t (show i < 9 by omega) m
      rcases ih (fu := fu) (i := i + 1) (by omega) (by omega) (by omega) (fun j hj => by
        by_cases ej : j = i
        · rw [ej]; exact m
        · exact hno j (by omega)) with ⟨k, σ', g1, g2, g3, g4, g5⟩ | ⟨g1, g2⟩
      · refine Or.inl ⟨k, σ', by omega, g2, g3, g4, ?_⟩
        unfold f_X5_readKind_L2; simp (disch := omega) only [↓bnd_s, ↓bnd2_s, ↓bnd3_s, ↓bnd4_s, ↓bnd5_s, ↓bndR_l, ↓bndR_r, ↓bndX_l, ↓bndX_r, bnd_s, bnd2_s, bnd3_s, bnd4_s, bnd5_s, bndR_l, bndR_r, bndX_l, bndX_r, nq_lt, nq_le, nq_inj, nq_add, nq_mul, nq_sub, nq_div, nq_neg1, nq_clamp, nq_ne1, nq_le1, ne1_lt, n1_lt0, n1_lt, n1_ne, nz0, nz1, nz2, nz3, nz4, nz5, nz6, nz8, nz10, nz31, nz32, nz50, nz400, nz800, nz3200, nz20000, nlt_f, nlt_t, nle_f, nle_t, neq_f, neq_t, gi_si_e, gi_si_n, gp_sp_e, gp_sp_n, gr_sr_e, gr_sr_n, gi_sp, gi_sr, gp_si, gp_sr, gr_si, gr_sp, upd_e, upd_n, un_e, un_n, an_sn_e, an_sn_n, an_sm, an_sv, am_sn, am_sm_e, am_sm_n, am_sv, ai_sn, ai_sm, ai_sv_e, ai_sv_n, reduceIte, or_false, false_or, or_true, true_or, or_self, and_true, true_and, and_false, false_and, not_true_eq_false, not_false_eq_true, n1]; exact g5
      · refine Or.inr ⟨g1, ?_⟩
        unfold f_X5_readKind_L2; simp (disch := omega) only [↓bnd_s, ↓bnd2_s, ↓bnd3_s, ↓bnd4_s, ↓bnd5_s, ↓bndR_l, ↓bndR_r, ↓bndX_l, ↓bndX_r, bnd_s, bnd2_s, bnd3_s, bnd4_s, bnd5_s, bndR_l, bndR_r, bndX_l, bndX_r, nq_lt, nq_le, nq_inj, nq_add, nq_mul, nq_sub, nq_div, nq_neg1, nq_clamp, nq_ne1, nq_le1, ne1_lt, n1_lt0, n1_lt, n1_ne, nz0, nz1, nz2, nz3, nz4, nz5, nz6, nz8, nz10, nz31, nz32, nz50, nz400, nz800, nz3200, nz20000, nlt_f, nlt_t, nle_f, nle_t, neq_f, neq_t, gi_si_e, gi_si_n, gp_sp_e, gp_sp_n, gr_sr_e, gr_sr_n, gi_sp, gi_sr, gp_si, gp_sr, gr_si, gr_sp, upd_e, upd_n, un_e, un_n, an_sn_e, an_sn_n, an_sm, an_sv, am_sn, am_sm_e, am_sm_n, am_sv, ai_sn, ai_sm, ai_sv_e, ai_sv_n, reduceIte, or_false, false_or, or_true, true_or, or_self, and_true, true_and, and_false, false_and, not_true_eq_false, not_false_eq_true, n1]; exact g2
theorem words_lit : ((115 : Int32) = nI (wd 0 0) ∧ (97 : Int32) = nI (wd 0 1) ∧ (109 : Int32) = nI (wd 0 2) ∧ (101 : Int32) = nI (wd 0 3) ∧ (0 : Int32) = nI (wd 0 4)) ∧
    ((114 : Int32) = nI (wd 1 0) ∧ (105 : Int32) = nI (wd 1 1) ∧ (115 : Int32) = nI (wd 1 2) ∧ (101 : Int32) = nI (wd 1 3) ∧ (0 : Int32) = nI (wd 1 4)) ∧
    ((102 : Int32) = nI (wd 2 0) ∧ (97 : Int32) = nI (wd 2 1) ∧ (108 : Int32) = nI (wd 2 2) ∧ (108 : Int32) = nI (wd 2 3) ∧ (0 : Int32) = nI (wd 2 4)) ∧
    ((119 : Int32) = nI (wd 3 0) ∧ (97 : Int32) = nI (wd 3 1) ∧ (118 : Int32) = nI (wd 3 2) ∧ (101 : Int32) = nI (wd 3 3) ∧ (0 : Int32) = nI (wd 3 4)) ∧
    ((100 : Int32) = nI (wd 4 0) ∧ (114 : Int32) = nI (wd 4 1) ∧ (97 : Int32) = nI (wd 4 2) ∧ (119 : Int32) = nI (wd 4 3) ∧ (0 : Int32) = nI (wd 4 4)) ∧
    ((116 : Int32) = nI (wd 5 0) ∧ (101 : Int32) = nI (wd 5 1) ∧ (101 : Int32) = nI (wd 5 2) ∧ (116 : Int32) = nI (wd 5 3) ∧ (104 : Int32) = nI (wd 5 4)) ∧
    ((109 : Int32) = nI (wd 8 0) ∧ (111 : Int32) = nI (wd 8 1) ∧ (100 : Int32) = nI (wd 8 2) ∧ (0 : Int32) = nI (wd 8 3) ∧ (0 : Int32) = nI (wd 8 4)) := by decide +kernel
theorem kindHere_eq (h : TX b L σ τ) {s e : Nat} (t : TOK b L s e σ τ) : (∀ k, k < 6 → Mt b s e k → f_X11_kindHere τ = some (nI k)) ∧ ((∀ j, j < 6 → ¬ Mt b s e j) → f_X11_kindHere τ = some (-nI 1)) := by
  have w : ∀ k, k < 6 → (Mt b s e k → f_X11_isWord (nI (wd k 0)) (nI (wd k 1)) (nI (wd k 2)) (nI (wd k 3)) (nI (wd k 4)) τ = some (nI 1)) ∧ (¬ Mt b s e k → f_X11_isWord (nI (wd k 0)) (nI (wd k 1)) (nI (wd k 2)) (nI (wd k 3)) (nI (wd k 4)) τ = some (nI 0)) :=
    fun k hk => word_eq h t (by omega) (by omega) (by omega)
  have e0 : f_X11_isWord 115 97 109 101 0 τ = f_X11_isWord (nI (wd 0 0)) (nI (wd 0 1)) (nI (wd 0 2)) (nI (wd 0 3)) (nI (wd 0 4)) τ := by
    obtain ⟨⟨a, b, c, d, e⟩, -⟩ := words_lit
    rw [← a, ← b, ← c, ← d, ← e]
  have e1 : f_X11_isWord 114 105 115 101 0 τ = f_X11_isWord (nI (wd 1 0)) (nI (wd 1 1)) (nI (wd 1 2)) (nI (wd 1 3)) (nI (wd 1 4)) τ := by
    obtain ⟨-, ⟨a, b, c, d, e⟩, -⟩ := words_lit
    rw [← a, ← b, ← c, ← d, ← e]
  have e2 : f_X11_isWord 102 97 108 108 0 τ = f_X11_isWord (nI (wd 2 0)) (nI (wd 2 1)) (nI (wd 2 2)) (nI (wd 2 3)) (nI (wd 2 4)) τ := by
    obtain ⟨-, -, ⟨a, b, c, d, e⟩, -⟩ := words_lit
    rw [← a, ← b, ← c, ← d, ← e]
  have e3 : f_X11_isWord 119 97 118 101 0 τ = f_X11_isWord (nI (wd 3 0)) (nI (wd 3 1)) (nI (wd 3 2)) (nI (wd 3 3)) (nI (wd 3 4)) τ := by
    obtain ⟨-, -, -, ⟨a, b, c, d, e⟩, -⟩ := words_lit
    rw [← a, ← b, ← c, ← d, ← e]
  have e4 : f_X11_isWord 100 114 97 119 0 τ = f_X11_isWord (nI (wd 4 0)) (nI (wd 4 1)) (nI (wd 4 2)) (nI (wd 4 3)) (nI (wd 4 4)) τ := by
    obtain ⟨-, -, -, -, ⟨a, b, c, d, e⟩, -⟩ := words_lit
    rw [← a, ← b, ← c, ← d, ← e]
  have e5 : f_X11_isWord 116 101 101 116 104 τ = f_X11_isWord (nI (wd 5 0)) (nI (wd 5 1)) (nI (wd 5 2)) (nI (wd 5 3)) (nI (wd 5 4)) τ := by
    obtain ⟨-, -, -, -, -, ⟨a, b, c, d, e⟩, -⟩ := words_lit
    rw [← a, ← b, ← c, ← d, ← e]
  refine ⟨fun k hk m => ?_, fun no => ?_⟩
  · have ne : ∀ j, j < 6 → j ≠ k → ¬ Mt b s e j := fun j hj hne m' => hne (Mt_uniq hj hk m' m)
    unfold f_X11_kindHere
    rw [e0, e1, e2, e3, e4, e5]
    match k, hk, m, ne with
    | 0, _, m, ne => rw [(w 0 (by omega)).1 m]; simp (disch := omega) only [↓bnd_s, ↓bnd2_s, ↓bnd3_s, ↓bnd4_s, ↓bnd5_s, ↓bndR_l, ↓bndR_r, ↓bndX_l, ↓bndX_r, bnd_s, bnd2_s, bnd3_s, bnd4_s, bnd5_s, bndR_l, bndR_r, bndX_l, bndX_r, nq_lt, nq_le, nq_inj, nq_add, nq_mul, nq_sub, nq_div, nq_neg1, nq_clamp, nq_ne1, nq_le1, ne1_lt, n1_lt0, n1_lt, n1_ne, nz0, nz1, nz2, nz3, nz4, nz5, nz6, nz8, nz10, nz31, nz32, nz50, nz400, nz800, nz3200, nz20000, nlt_f, nlt_t, nle_f, nle_t, neq_f, neq_t, gi_si_e, gi_si_n, gp_sp_e, gp_sp_n, gr_sr_e, gr_sr_n, gi_sp, gi_sr, gp_si, gp_sr, gr_si, gr_sp, upd_e, upd_n, un_e, un_n, an_sn_e, an_sn_n, an_sm, an_sv, am_sn, am_sm_e, am_sm_n, am_sv, ai_sn, ai_sm, ai_sv_e, ai_sv_n, reduceIte, or_false, false_or, or_true, true_or, or_self, and_true, true_and, and_false, false_and, not_true_eq_false, not_false_eq_true]
    | 1, _, m, ne => rw [(w 0 (by omega)).2 (ne 0 (by omega) (by omega)), (w 1 (by omega)).1 m]; simp (disch := omega) only [↓bnd_s, ↓bnd2_s, ↓bnd3_s, ↓bnd4_s, ↓bnd5_s, ↓bndR_l, ↓bndR_r, ↓bndX_l, ↓bndX_r, bnd_s, bnd2_s, bnd3_s, bnd4_s, bnd5_s, bndR_l, bndR_r, bndX_l, bndX_r, nq_lt, nq_le, nq_inj, nq_add, nq_mul, nq_sub, nq_div, nq_neg1, nq_clamp, nq_ne1, nq_le1, ne1_lt, n1_lt0, n1_lt, n1_ne, nz0, nz1, nz2, nz3, nz4, nz5, nz6, nz8, nz10, nz31, nz32, nz50, nz400, nz800, nz3200, nz20000, nlt_f, nlt_t, nle_f, nle_t, neq_f, neq_t, gi_si_e, gi_si_n, gp_sp_e, gp_sp_n, gr_sr_e, gr_sr_n, gi_sp, gi_sr, gp_si, gp_sr, gr_si, gr_sp, upd_e, upd_n, un_e, un_n, an_sn_e, an_sn_n, an_sm, an_sv, am_sn, am_sm_e, am_sm_n, am_sv, ai_sn, ai_sm, ai_sv_e, ai_sv_n, reduceIte, or_false, false_or, or_true, true_or, or_self, and_true, true_and, and_false, false_and, not_true_eq_false, not_false_eq_true]
    | 2, _, m, ne => rw [(w 0 (by omega)).2 (ne 0 (by omega) (by omega)), (w 1 (by omega)).2 (ne 1 (by omega) (by omega)), (w 2 (by omega)).1 m]; simp (disch := omega) only [↓bnd_s, ↓bnd2_s, ↓bnd3_s, ↓bnd4_s, ↓bnd5_s, ↓bndR_l, ↓bndR_r, ↓bndX_l, ↓bndX_r, bnd_s, bnd2_s, bnd3_s, bnd4_s, bnd5_s, bndR_l, bndR_r, bndX_l, bndX_r, nq_lt, nq_le, nq_inj, nq_add, nq_mul, nq_sub, nq_div, nq_neg1, nq_clamp, nq_ne1, nq_le1, ne1_lt, n1_lt0, n1_lt, n1_ne, nz0, nz1, nz2, nz3, nz4, nz5, nz6, nz8, nz10, nz31, nz32, nz50, nz400, nz800, nz3200, nz20000, nlt_f, nlt_t, nle_f, nle_t, neq_f, neq_t, gi_si_e, gi_si_n, gp_sp_e, gp_sp_n, gr_sr_e, gr_sr_n, gi_sp, gi_sr, gp_si, gp_sr, gr_si, gr_sp, upd_e, upd_n, un_e, un_n, an_sn_e, an_sn_n, an_sm, an_sv, am_sn, am_sm_e, am_sm_n, am_sv, ai_sn, ai_sm, ai_sv_e, ai_sv_n, reduceIte, or_false, false_or, or_true, true_or, or_self, and_true, true_and, and_false, false_and, not_true_eq_false, not_false_eq_true]
    | 3, _, m, ne => rw [(w 0 (by omega)).2 (ne 0 (by omega) (by omega)), (w 1 (by omega)).2 (ne 1 (by omega) (by omega)), (w 2 (by omega)).2 (ne 2 (by omega) (by omega)), (w 3 (by omega)).1 m]; simp (disch := omega) only [↓bnd_s, ↓bnd2_s, ↓bnd3_s, ↓bnd4_s, ↓bnd5_s, ↓bndR_l, ↓bndR_r, ↓bndX_l, ↓bndX_r, bnd_s, bnd2_s, bnd3_s, bnd4_s, bnd5_s, bndR_l, bndR_r, bndX_l, bndX_r, nq_lt, nq_le, nq_inj, nq_add, nq_mul, nq_sub, nq_div, nq_neg1, nq_clamp, nq_ne1, nq_le1, ne1_lt, n1_lt0, n1_lt, n1_ne, nz0, nz1, nz2, nz3, nz4, nz5, nz6, nz8, nz10, nz31, nz32, nz50, nz400, nz800, nz3200, nz20000, nlt_f, nlt_t, nle_f, nle_t, neq_f, neq_t, gi_si_e, gi_si_n, gp_sp_e, gp_sp_n, gr_sr_e, gr_sr_n, gi_sp, gi_sr, gp_si, gp_sr, gr_si, gr_sp, upd_e, upd_n, un_e, un_n, an_sn_e, an_sn_n, an_sm, an_sv, am_sn, am_sm_e, am_sm_n, am_sv, ai_sn, ai_sm, ai_sv_e, ai_sv_n, reduceIte, or_false, false_or, or_true, true_or, or_self, and_true, true_and, and_false, false_and, not_true_eq_false, not_false_eq_true]
    | 4, _, m, ne => rw [(w 0 (by omega)).2 (ne 0 (by omega) (by omega)), (w 1 (by omega)).2 (ne 1 (by omega) (by omega)), (w 2 (by omega)).2 (ne 2 (by omega) (by omega)), (w 3 (by omega)).2 (ne 3 (by omega) (by omega)), (w 4 (by omega)).1 m]; simp (disch := omega) only [↓bnd_s, ↓bnd2_s, ↓bnd3_s, ↓bnd4_s, ↓bnd5_s, ↓bndR_l, ↓bndR_r, ↓bndX_l, ↓bndX_r, bnd_s, bnd2_s, bnd3_s, bnd4_s, bnd5_s, bndR_l, bndR_r, bndX_l, bndX_r, nq_lt, nq_le, nq_inj, nq_add, nq_mul, nq_sub, nq_div, nq_neg1, nq_clamp, nq_ne1, nq_le1, ne1_lt, n1_lt0, n1_lt, n1_ne, nz0, nz1, nz2, nz3, nz4, nz5, nz6, nz8, nz10, nz31, nz32, nz50, nz400, nz800, nz3200, nz20000, nlt_f, nlt_t, nle_f, nle_t, neq_f, neq_t, gi_si_e, gi_si_n, gp_sp_e, gp_sp_n, gr_sr_e, gr_sr_n, gi_sp, gi_sr, gp_si, gp_sr, gr_si, gr_sp, upd_e, upd_n, un_e, un_n, an_sn_e, an_sn_n, an_sm, an_sv, am_sn, am_sm_e, am_sm_n, am_sv, ai_sn, ai_sm, ai_sv_e, ai_sv_n, reduceIte, or_false, false_or, or_true, true_or, or_self, and_true, true_and, and_false, false_and, not_true_eq_false, not_false_eq_true]
    | 5, _, m, ne => rw [(w 0 (by omega)).2 (ne 0 (by omega) (by omega)), (w 1 (by omega)).2 (ne 1 (by omega) (by omega)), (w 2 (by omega)).2 (ne 2 (by omega) (by omega)), (w 3 (by omega)).2 (ne 3 (by omega) (by omega)), (w 4 (by omega)).2 (ne 4 (by omega) (by omega)), (w 5 (by omega)).1 m]; simp (disch := omega) only [↓bnd_s, ↓bnd2_s, ↓bnd3_s, ↓bnd4_s, ↓bnd5_s, ↓bndR_l, ↓bndR_r, ↓bndX_l, ↓bndX_r, bnd_s, bnd2_s, bnd3_s, bnd4_s, bnd5_s, bndR_l, bndR_r, bndX_l, bndX_r, nq_lt, nq_le, nq_inj, nq_add, nq_mul, nq_sub, nq_div, nq_neg1, nq_clamp, nq_ne1, nq_le1, ne1_lt, n1_lt0, n1_lt, n1_ne, nz0, nz1, nz2, nz3, nz4, nz5, nz6, nz8, nz10, nz31, nz32, nz50, nz400, nz800, nz3200, nz20000, nlt_f, nlt_t, nle_f, nle_t, neq_f, neq_t, gi_si_e, gi_si_n, gp_sp_e, gp_sp_n, gr_sr_e, gr_sr_n, gi_sp, gi_sr, gp_si, gp_sr, gr_si, gr_sp, upd_e, upd_n, un_e, un_n, an_sn_e, an_sn_n, an_sm, an_sv, am_sn, am_sm_e, am_sm_n, am_sv, ai_sn, ai_sm, ai_sv_e, ai_sv_n, reduceIte, or_false, false_or, or_true, true_or, or_self, and_true, true_and, and_false, false_and, not_true_eq_false, not_false_eq_true]
  · unfold f_X11_kindHere
    rw [e0, e1, e2, e3, e4, e5, (w 0 (by omega)).2 (no 0 (by omega)), (w 1 (by omega)).2 (no 1 (by omega)), (w 2 (by omega)).2 (no 2 (by omega)), (w 3 (by omega)).2 (no 3 (by omega)), (w 4 (by omega)).2 (no 4 (by omega)), (w 5 (by omega)).2 (no 5 (by omega))]
    simp (disch := omega) only [↓bnd_s, ↓bnd2_s, ↓bnd3_s, ↓bnd4_s, ↓bnd5_s, ↓bndR_l, ↓bndR_r, ↓bndX_l, ↓bndX_r, bnd_s, bnd2_s, bnd3_s, bnd4_s, bnd5_s, bndR_l, bndR_r, bndX_l, bndX_r, nq_lt, nq_le, nq_inj, nq_add, nq_mul, nq_sub, nq_div, nq_neg1, nq_clamp, nq_ne1, nq_le1, ne1_lt, n1_lt0, n1_lt, n1_ne, nz0, nz1, nz2, nz3, nz4, nz5, nz6, nz8, nz10, nz31, nz32, nz50, nz400, nz800, nz3200, nz20000, nlt_f, nlt_t, nle_f, nle_t, neq_f, neq_t, gi_si_e, gi_si_n, gp_sp_e, gp_sp_n, gr_sr_e, gr_sr_n, gi_sp, gi_sr, gp_si, gp_sr, gr_si, gr_sp, upd_e, upd_n, un_e, un_n, an_sn_e, an_sn_n, an_sm, an_sv, am_sn, am_sm_e, am_sm_n, am_sv, ai_sn, ai_sm, ai_sv_e, ai_sv_n, reduceIte, or_false, false_or, or_true, true_or, or_self, and_true, true_and, and_false, false_and, not_true_eq_false, not_false_eq_true]
end PA
