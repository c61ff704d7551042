def pC (σ σ' : St) : Prop := (∀ k, k < 512 → k ≠ 82 → k ≠ 83 → k ≠ 98 → gi σ' k = gi σ k) ∧ (∀ k, k < 512 → gp σ' k = gp σ k) ∧ ∀ j, gr σ' j = gr σ j
def pM (τ τ' : St) : Prop := (∀ k, (k < 13 ∨ 17 < k) → k ≠ 24 → gi τ' k = gi τ k) ∧ ∀ j, (j < 19 ∨ 24 < j) → gr τ' j = gr τ j
theorem pC.trans {σ σ' σ2 : St} (h : pC σ σ') (h2 : pC σ' σ2) : pC σ σ2 := ⟨fun k a b c d => (h2.1 k a b c d).trans (h.1 k a b c d), fun k a => (h2.2.1 k a).trans (h.2.1 k a), fun j => (h2.2.2 j).trans (h.2.2 j)⟩
theorem pM.trans {τ τ' τ2 : St} (h : pM τ τ') (h2 : pM τ' τ2) : pM τ τ2 := ⟨fun k a b => (h2.1 k a b).trans (h.1 k a b), fun j a => (h2.2 j a).trans (h.2 j a)⟩
theorem pC.refl (σ : St) : pC σ σ := ⟨fun _ _ _ _ _ => rfl, fun _ _ => rfl, fun _ => rfl⟩
theorem pM.refl (τ : St) : pM τ τ := ⟨fun _ _ _ => rfl, fun _ _ => rfl⟩
theorem rC.p {n : Nat} {σ σ' : St} (h : rC n σ σ') : pC σ σ' := ⟨fun k a b c _ => h.1 k b c (by omega), fun k a => h.2.1 k (by omega), h.2.2⟩
theorem rM.p {n : Nat} {τ τ' : St} (h : rM n τ τ') : pM τ τ' := ⟨h.1, h.2.1⟩
theorem pC.s98 (σ : St) (v : Int32) : pC σ (si σ 98 v) := ⟨fun k a b c d => by simp (disch := omega) only [gi_si_e, gi_si_n, gp_sp_e, gp_sp_n, gr_sr_e, gr_sr_n, gi_sp, gi_sr, gp_si, gp_sr, gr_si, gr_sp, upd_e, upd_n, un_e, un_n, an_sn_e, an_sn_n, an_sm, an_sv, am_sn, am_sm_e, am_sm_n, am_sv, ai_sn, ai_sm, ai_sv_e, ai_sv_n, reduceIte, or_false, false_or, or_true, true_or, or_self, and_true, true_and, and_false, false_and, not_true_eq_false, not_false_eq_true], fun _ _ => rfl, fun _ => rfl⟩
theorem RunR.keep {k n : Nat} {σ τ σ' τ' : St} (h : RunR k σ τ) (hk : k < n) (c : rC n σ σ') (m : rM n τ τ') : RunR k σ' τ' := by
  obtain ⟨h1, h2, h3, h4, h5, h6, h7⟩ := h
  have ep : gp σ' (8 * (64 + k)) = gp σ (8 * (64 + k)) := c.2.1 _ (by omega)
  have ei : ∀ u, u < 8 → gi σ' (8 * (64 + k) + u) = gi σ (8 * (64 + k) + u) := fun u hu => c.1 _ (by omega) (by omega) (by omega)
  have em : ∀ j, gr τ' j k = gr τ j k := fun j => m.2.2 j k (by omega)
  unfold RunR
  rw [ep, em, em, em, em, em, em, ei 1 (by omega), ei 2 (by omega), ei 3 (by omega), ei 4 (by omega), ei 5 (by omega)]
  exact ⟨h1, h2, h3, h4, h5, h6, h7⟩
theorem RunR.s98 {k : Nat} {σ τ : St} (h : RunR k σ τ) (v : Int32) : RunR k (si σ 98 v) τ := by
  obtain ⟨h1, h2, h3, h4, h5, h6, h7⟩ := h
  have ei : ∀ u, u < 8 → gi (si σ 98 v) (8 * (64 + k) + u) = gi σ (8 * (64 + k) + u) := fun u hu => by simp (disch := omega) only [gi_si_e, gi_si_n, gp_sp_e, gp_sp_n, gr_sr_e, gr_sr_n, gi_sp, gi_sr, gp_si, gp_sr, gr_si, gr_sp, upd_e, upd_n, un_e, un_n, an_sn_e, an_sn_n, an_sm, an_sv, am_sn, am_sm_e, am_sm_n, am_sv, ai_sn, ai_sm, ai_sv_e, ai_sv_n, reduceIte, or_false, false_or, or_true, true_or, or_self, and_true, true_and, and_false, false_and, not_true_eq_false, not_false_eq_true]
  unfold RunR
  rw [ei 1 (by omega), ei 2 (by omega), ei 3 (by omega), ei 4 (by omega), ei 5 (by omega)]
  exact ⟨h1, h2, h3, h4, h5, h6, h7⟩
section RS
variable {b : Nat → Nat} {L : Nat}
theorem TX.p {σ τ σ' τ' : St} (h : TX b L σ τ) (c : pC σ σ') (m : pM τ τ') : TX b L σ' τ' :=
  ⟨h.1, h.2.1, (c.1 81 (by decide) (by decide) (by decide) (by decide)).trans h.2.2.1, (m.1 8 (by omega) (by decide)).trans h.2.2.2.1, fun k hk => by rw [c.2.2]; exact h.2.2.2.2.1 k hk, fun k hk => by rw [m.2 8 (by omega)]; exact h.2.2.2.2.2 k hk⟩
theorem reads_L : ∀ (d : Nat) {fu gu n s e : Nat} {σ τ : St}, TX b L σ τ → TOK b L s e σ τ → gi σ 98 = nI n → gi τ 24 = nI n → gi τ 17 = -nI 1 → 8 * n ≤ s → (∀ k, k < n → RunR k σ τ) → 50 - n = d → d < fu → d + 1 < gu →
    (∃ σ' τ' m, m ≤ 50 ∧ f_X5_readText_L12 fu σ = some (.inr σ') ∧ f_X11_reads_L19 gu τ = some τ' ∧ gi τ' 17 = -nI 1 ∧ gi σ' 98 = nI m ∧ gi τ' 24 = nI m ∧ (∀ k, k < m → RunR k σ' τ') ∧ pC σ σ' ∧ pM τ τ') ∨
    (∃ σ' τ' x, x ≤ L ∧ f_X5_readText_L12 fu σ = some (.inl (nI x, σ')) ∧ f_X11_reads_L19 gu τ = some τ' ∧ gi τ' 17 = nI x ∧ pC σ σ' ∧ pM τ τ' ∧ ∃ m, m ≤ 50 ∧ gi τ' 24 = nI m) := by
  have atEnd : ∀ {fu gu n s e : Nat} {σ τ : St}, TX b L σ τ → TOK b L s e σ τ → s = L → gi σ 98 = nI n → gi τ 24 = nI n → gi τ 17 = -nI 1 → n ≤ 50 → (∀ k, k < n → RunR k σ τ) →
      (∃ σ' τ' m, m ≤ 50 ∧ f_X5_readText_L12 (fu + 1) σ = some (.inr σ') ∧ f_X11_reads_L19 (gu + 1) τ = some τ' ∧ gi τ' 17 = -nI 1 ∧ gi σ' 98 = nI m ∧ gi τ' 24 = nI m ∧ (∀ k, k < m → RunR k σ' τ') ∧ pC σ σ' ∧ pM τ τ') := by
    intro fu gu n s e σ τ h t hs h1 h2 hw hn hr
    have hl := h.l
    refine ⟨σ, τ, n, hn, ?_, ?_, hw, h1, h2, hr, pC.refl σ, pM.refl τ⟩
    · unfold f_X5_readText_L12 f_X9_isAtEnd; simp (disch := omega) only [↓bnd_s, ↓bnd2_s, ↓bnd3_s, ↓bnd4_s, ↓bnd5_s, ↓bndR_l, ↓bndR_r, ↓bndX_l, ↓bndX_r, bnd_s, bnd2_s, bnd3_s, bnd4_s, bnd5_s, bndR_l, bndR_r, bndX_l, bndX_r, nq_lt, nq_le, nq_inj, nq_add, nq_mul, nq_sub, nq_div, nq_neg1, nq_clamp, nq_ne1, nq_le1, ne1_lt, n1_lt0, n1_lt, n1_ne, nz0, nz1, nz2, nz3, nz4, nz5, nz6, nz8, nz10, nz31, nz32, nz50, nz400, nz800, nz3200, nz20000, nlt_f, nlt_t, nle_f, nle_t, neq_f, neq_t, gi_si_e, gi_si_n, gp_sp_e, gp_sp_n, gr_sr_e, gr_sr_n, gi_sp, gi_sr, gp_si, gp_sr, gr_si, gr_sp, upd_e, upd_n, un_e, un_n, an_sn_e, an_sn_n, an_sm, an_sv, am_sn, am_sm_e, am_sm_n, am_sv, ai_sn, ai_sm, ai_sv_e, ai_sv_n, reduceIte, or_false, false_or, or_true, true_or, or_self, and_true, true_and, and_false, false_and, not_true_eq_false, not_false_eq_true, t.c82, h.cL]
    · rcases t.2.2.2.2.2.2 with ⟨q1, q2⟩ | ⟨q1, -⟩
      · unfold f_X11_reads_L19; simp (disch := omega) only [↓bnd_s, ↓bnd2_s, ↓bnd3_s, ↓bnd4_s, ↓bnd5_s, ↓bndR_l, ↓bndR_r, ↓bndX_l, ↓bndX_r, bnd_s, bnd2_s, bnd3_s, bnd4_s, bnd5_s, bndR_l, bndR_r, bndX_l, bndX_r, nq_lt, nq_le, nq_inj, nq_add, nq_mul, nq_sub, nq_div, nq_neg1, nq_clamp, nq_ne1, nq_le1, ne1_lt, n1_lt0, n1_lt, n1_ne, nz0, nz1, nz2, nz3, nz4, nz5, nz6, nz8, nz10, nz31, nz32, nz50, nz400, nz800, nz3200, nz20000, nlt_f, nlt_t, nle_f, nle_t, neq_f, neq_t, gi_si_e, gi_si_n, gp_sp_e, gp_sp_n, gr_sr_e, gr_sr_n, gi_sp, gi_sr, gp_si, gp_sr, gr_si, gr_sp, upd_e, upd_n, un_e, un_n, an_sn_e, an_sn_n, an_sm, an_sv, am_sn, am_sm_e, am_sm_n, am_sv, ai_sn, ai_sm, ai_sv_e, ai_sv_n, reduceIte, or_false, false_or, or_true, true_or, or_self, and_true, true_and, and_false, false_and, not_true_eq_false, not_false_eq_true, hw, q2]
      · omega
  intro d
  induction d with
  | zero =>
    intro fu gu n s e σ τ h t h1 h2 hw h8 hr hd hf hg
    obtain ⟨fu, rfl⟩ : ∃ f, fu = f + 1 := ⟨fu - 1, by omega⟩
    obtain ⟨gu, rfl⟩ : ∃ f, gu = f + 1 := ⟨gu - 1, by omega⟩
    have hl := h.l
    have := t.se
    have := t.eL
    exact Or.inl (atEnd h t (by omega) h1 h2 hw (by omega) hr)
  | succ d ih =>
    intro fu gu n s e σ τ h t h1 h2 hw h8 hr hd hf hg
    obtain ⟨fu, rfl⟩ : ∃ f, fu = f + 1 := ⟨fu - 1, by omega⟩
    obtain ⟨gu, rfl⟩ : ∃ f, gu = f + 1 := ⟨gu - 1, by omega⟩
    have hl := h.l
    have hse := t.se
    have heL := t.eL
    by_cases es : s = L
    · exact Or.inl (atEnd h t es h1 h2 hw (by omega) hr)
    · have hs : s < L := by omega
      have ht : ¬ gi τ 14 = nI 6 := by
        rcases t.2.2.2.2.2.2 with ⟨q1, -⟩ | ⟨q1, -, q3, -⟩
        · omega
        · rw [q3, nq_inj (by have := (tcd_r (b s)).2; omega) (by omega)]
          have := (tcd_r (b s)).2
          omega
      rcases run_lock h (show n < 80 by omega) t hw h2 with ⟨σ', τ', s', e', r1, r2, r3, r4, r5, r6, r7, r8, r9⟩ | ⟨σ', τ', s', r1, r2, r3, r4, r5, r6, r7, r8⟩
      · have g98 : gi σ' 98 = nI n := (r8.1 98 (by decide) (by decide) (by omega)).trans h1
        have c9 := pC.s98 σ' (nI (n + 1))
        have t' : TOK b L s' e' (si σ' 98 (nI (n + 1))) τ' := by
          obtain ⟨q1, q2, q3⟩ := r3
          exact ⟨by simp (disch := omega) only [gi_si_e, gi_si_n, gp_sp_e, gp_sp_n, gr_sr_e, gr_sr_n, gi_sp, gi_sr, gp_si, gp_sr, gr_si, gr_sp, upd_e, upd_n, un_e, un_n, an_sn_e, an_sn_n, an_sm, an_sv, am_sn, am_sm_e, am_sm_n, am_sv, ai_sn, ai_sm, ai_sv_e, ai_sv_n, reduceIte, or_false, false_or, or_true, true_or, or_self, and_true, true_and, and_false, false_and, not_true_eq_false, not_false_eq_true, q1], by simp (disch := omega) only [gi_si_e, gi_si_n, gp_sp_e, gp_sp_n, gr_sr_e, gr_sr_n, gi_sp, gi_sr, gp_si, gp_sr, gr_si, gr_sp, upd_e, upd_n, un_e, un_n, an_sn_e, an_sn_n, an_sm, an_sv, am_sn, am_sm_e, am_sm_n, am_sv, ai_sn, ai_sm, ai_sv_e, ai_sv_n, reduceIte, or_false, false_or, or_true, true_or, or_self, and_true, true_and, and_false, false_and, not_true_eq_false, not_false_eq_true, q2], q3⟩
        rcases ih (fu := fu) (gu := gu) (n := n + 1) ((h.p r8.p r9.p).p c9 (pM.refl _)) t' (by simp (disch := omega) only [gi_si_e, gi_si_n, gp_sp_e, gp_sp_n, gr_sr_e, gr_sr_n, gi_sp, gi_sr, gp_si, gp_sr, gr_si, gr_sp, upd_e, upd_n, un_e, un_n, an_sn_e, an_sn_n, an_sm, an_sv, am_sn, am_sm_e, am_sm_n, am_sv, ai_sn, ai_sm, ai_sv_e, ai_sv_n, reduceIte, or_false, false_or, or_true, true_or, or_self, and_true, true_and, and_false, false_and, not_true_eq_false, not_false_eq_true]) r6 r7 (by omega) (fun k hk => by
          by_cases ek : k = n
          · rw [ek]; exact r5.s98 _
          · exact ((hr k (by omega)).keep (by omega) r8 r9).s98 _) (by omega) (by omega) (by omega) with ⟨σ2, τ2, m, g1, g2, g3, g4, g5, g6, g7, g8, g9⟩ | ⟨σ2, τ2, x, g1, g2, g3, g4, g5, g6, gm⟩
        · refine Or.inl ⟨σ2, τ2, m, g1, ?_, ?_, g4, g5, g6, g7, (r8.p.trans c9).trans g8, r9.p.trans g9⟩
          · unfold f_X5_readText_L12 f_X9_isAtEnd; simp (disch := omega) only [↓bnd_s, ↓bnd2_s, ↓bnd3_s, ↓bnd4_s, ↓bnd5_s, ↓bndR_l, ↓bndR_r, ↓bndX_l, ↓bndX_r, bnd_s, bnd2_s, bnd3_s, bnd4_s, bnd5_s, bndR_l, bndR_r, bndX_l, bndX_r, nq_lt, nq_le, nq_inj, nq_add, nq_mul, nq_sub, nq_div, nq_neg1, nq_clamp, nq_ne1, nq_le1, ne1_lt, n1_lt0, n1_lt, n1_ne, nz0, nz1, nz2, nz3, nz4, nz5, nz6, nz8, nz10, nz31, nz32, nz50, nz400, nz800, nz3200, nz20000, nlt_f, nlt_t, nle_f, nle_t, neq_f, neq_t, gi_si_e, gi_si_n, gp_sp_e, gp_sp_n, gr_sr_e, gr_sr_n, gi_sp, gi_sr, gp_si, gp_sr, gr_si, gr_sp, upd_e, upd_n, un_e, un_n, an_sn_e, an_sn_n, an_sm, an_sv, am_sn, am_sm_e, am_sm_n, am_sv, ai_sn, ai_sm, ai_sv_e, ai_sv_n, reduceIte, or_false, false_or, or_true, true_or, or_self, and_true, true_and, and_false, false_and, not_true_eq_false, not_false_eq_true, t.c82, h.cL, h1, r1, g98, g2]
          · unfold f_X11_reads_L19; simp (disch := omega) only [↓bnd_s, ↓bnd2_s, ↓bnd3_s, ↓bnd4_s, ↓bnd5_s, ↓bndR_l, ↓bndR_r, ↓bndX_l, ↓bndX_r, bnd_s, bnd2_s, bnd3_s, bnd4_s, bnd5_s, bndR_l, bndR_r, bndX_l, bndX_r, nq_lt, nq_le, nq_inj, nq_add, nq_mul, nq_sub, nq_div, nq_neg1, nq_clamp, nq_ne1, nq_le1, ne1_lt, n1_lt0, n1_lt, n1_ne, nz0, nz1, nz2, nz3, nz4, nz5, nz6, nz8, nz10, nz31, nz32, nz50, nz400, nz800, nz3200, nz20000, nlt_f, nlt_t, nle_f, nle_t, neq_f, neq_t, gi_si_e, gi_si_n, gp_sp_e, gp_sp_n, gr_sr_e, gr_sr_n, gi_sp, gi_sr, gp_si, gp_sr, gr_si, gr_sp, upd_e, upd_n, un_e, un_n, an_sn_e, an_sn_n, an_sm, an_sv, am_sn, am_sm_e, am_sm_n, am_sv, ai_sn, ai_sm, ai_sv_e, ai_sv_n, reduceIte, or_false, false_or, or_true, true_or, or_self, and_true, true_and, and_false, false_and, not_true_eq_false, not_false_eq_true, hw, ht, r2, g3]
        · refine Or.inr ⟨σ2, τ2, x, g1, ?_, ?_, g4, (r8.p.trans c9).trans g5, r9.p.trans g6, gm⟩
          · unfold f_X5_readText_L12 f_X9_isAtEnd; simp (disch := omega) only [↓bnd_s, ↓bnd2_s, ↓bnd3_s, ↓bnd4_s, ↓bnd5_s, ↓bndR_l, ↓bndR_r, ↓bndX_l, ↓bndX_r, bnd_s, bnd2_s, bnd3_s, bnd4_s, bnd5_s, bndR_l, bndR_r, bndX_l, bndX_r, nq_lt, nq_le, nq_inj, nq_add, nq_mul, nq_sub, nq_div, nq_neg1, nq_clamp, nq_ne1, nq_le1, ne1_lt, n1_lt0, n1_lt, n1_ne, nz0, nz1, nz2, nz3, nz4, nz5, nz6, nz8, nz10, nz31, nz32, nz50, nz400, nz800, nz3200, nz20000, nlt_f, nlt_t, nle_f, nle_t, neq_f, neq_t, gi_si_e, gi_si_n, gp_sp_e, gp_sp_n, gr_sr_e, gr_sr_n, gi_sp, gi_sr, gp_si, gp_sr, gr_si, gr_sp, upd_e, upd_n, un_e, un_n, an_sn_e, an_sn_n, an_sm, an_sv, am_sn, am_sm_e, am_sm_n, am_sv, ai_sn, ai_sm, ai_sv_e, ai_sv_n, reduceIte, or_false, false_or, or_true, true_or, or_self, and_true, true_and, and_false, false_and, not_true_eq_false, not_false_eq_true, t.c82, h.cL, h1, r1, g98, g2]
          · unfold f_X11_reads_L19; simp (disch := omega) only [↓bnd_s, ↓bnd2_s, ↓bnd3_s, ↓bnd4_s, ↓bnd5_s, ↓bndR_l, ↓bndR_r, ↓bndX_l, ↓bndX_r, bnd_s, bnd2_s, bnd3_s, bnd4_s, bnd5_s, bndR_l, bndR_r, bndX_l, bndX_r, nq_lt, nq_le, nq_inj, nq_add, nq_mul, nq_sub, nq_div, nq_neg1, nq_clamp, nq_ne1, nq_le1, ne1_lt, n1_lt0, n1_lt, n1_ne, nz0, nz1, nz2, nz3, nz4, nz5, nz6, nz8, nz10, nz31, nz32, nz50, nz400, nz800, nz3200, nz20000, nlt_f, nlt_t, nle_f, nle_t, neq_f, neq_t, gi_si_e, gi_si_n, gp_sp_e, gp_sp_n, gr_sr_e, gr_sr_n, gi_sp, gi_sr, gp_si, gp_sr, gr_si, gr_sp, upd_e, upd_n, un_e, un_n, an_sn_e, an_sn_n, an_sm, an_sv, am_sn, am_sm_e, am_sm_n, am_sv, ai_sn, ai_sm, ai_sv_e, ai_sv_n, reduceIte, or_false, false_or, or_true, true_or, or_self, and_true, true_and, and_false, false_and, not_true_eq_false, not_false_eq_true, hw, ht, r2, g3]
      · obtain ⟨gu, rfl⟩ : ∃ f, gu = f + 1 := ⟨gu - 1, by omega⟩
        refine Or.inr ⟨σ', τ', s', r5, ?_, ?_, r4, r6.p, r7.p, n, by omega, r8⟩
        · unfold f_X5_readText_L12 f_X9_isAtEnd; simp (disch := omega) only [↓bnd_s, ↓bnd2_s, ↓bnd3_s, ↓bnd4_s, ↓bnd5_s, ↓bndR_l, ↓bndR_r, ↓bndX_l, ↓bndX_r, bnd_s, bnd2_s, bnd3_s, bnd4_s, bnd5_s, bndR_l, bndR_r, bndX_l, bndX_r, nq_lt, nq_le, nq_inj, nq_add, nq_mul, nq_sub, nq_div, nq_neg1, nq_clamp, nq_ne1, nq_le1, ne1_lt, n1_lt0, n1_lt, n1_ne, nz0, nz1, nz2, nz3, nz4, nz5, nz6, nz8, nz10, nz31, nz32, nz50, nz400, nz800, nz3200, nz20000, nlt_f, nlt_t, nle_f, nle_t, neq_f, neq_t, gi_si_e, gi_si_n, gp_sp_e, gp_sp_n, gr_sr_e, gr_sr_n, gi_sp, gi_sr, gp_si, gp_sr, gr_si, gr_sp, upd_e, upd_n, un_e, un_n, an_sn_e, an_sn_n, an_sm, an_sv, am_sn, am_sm_e, am_sm_n, am_sv, ai_sn, ai_sm, ai_sv_e, ai_sv_n, reduceIte, or_false, false_or, or_true, true_or, or_self, and_true, true_and, and_false, false_and, not_true_eq_false, not_false_eq_true, t.c82, h.cL, h1, r1, r3]
        · unfold f_X11_reads_L19; simp (disch := omega) only [↓bnd_s, ↓bnd2_s, ↓bnd3_s, ↓bnd4_s, ↓bnd5_s, ↓bndR_l, ↓bndR_r, ↓bndX_l, ↓bndX_r, bnd_s, bnd2_s, bnd3_s, bnd4_s, bnd5_s, bndR_l, bndR_r, bndX_l, bndX_r, nq_lt, nq_le, nq_inj, nq_add, nq_mul, nq_sub, nq_div, nq_neg1, nq_clamp, nq_ne1, nq_le1, ne1_lt, n1_lt0, n1_lt, n1_ne, nz0, nz1, nz2, nz3, nz4, nz5, nz6, nz8, nz10, nz31, nz32, nz50, nz400, nz800, nz3200, nz20000, nlt_f, nlt_t, nle_f, nle_t, neq_f, neq_t, gi_si_e, gi_si_n, gp_sp_e, gp_sp_n, gr_sr_e, gr_sr_n, gi_sp, gi_sr, gp_si, gp_sr, gr_si, gr_sp, upd_e, upd_n, un_e, un_n, an_sn_e, an_sn_n, an_sm, an_sv, am_sn, am_sm_e, am_sm_n, am_sv, ai_sn, ai_sm, ai_sv_e, ai_sv_n, reduceIte, or_false, false_or, or_true, true_or, or_self, and_true, true_and, and_false, false_and, not_true_eq_false, not_false_eq_true, hw, ht, r2]
          unfold f_X11_reads_L19; simp (disch := omega) only [↓bnd_s, ↓bnd2_s, ↓bnd3_s, ↓bnd4_s, ↓bnd5_s, ↓bndR_l, ↓bndR_r, ↓bndX_l, ↓bndX_r, bnd_s, bnd2_s, bnd3_s, bnd4_s, bnd5_s, bndR_l, bndR_r, bndX_l, bndX_r, nq_lt, nq_le, nq_inj, nq_add, nq_mul, nq_sub, nq_div, nq_neg1, nq_clamp, nq_ne1, nq_le1, ne1_lt, n1_lt0, n1_lt, n1_ne, nz0, nz1, nz2, nz3, nz4, nz5, nz6, nz8, nz10, nz31, nz32, nz50, nz400, nz800, nz3200, nz20000, nlt_f, nlt_t, nle_f, nle_t, neq_f, neq_t, gi_si_e, gi_si_n, gp_sp_e, gp_sp_n, gr_sr_e, gr_sr_n, gi_sp, gi_sr, gp_si, gp_sr, gr_si, gr_sp, upd_e, upd_n, un_e, un_n, an_sn_e, an_sn_n, an_sm, an_sv, am_sn, am_sm_e, am_sm_n, am_sv, ai_sn, ai_sm, ai_sv_e, ai_sv_n, reduceIte, or_false, false_or, or_true, true_or, or_self, and_true, true_and, and_false, false_and, not_true_eq_false, not_false_eq_true, r4]
end RS
section RZ
variable {a : AS} {σ τ : St}
theorem REL.tx (h : REL a σ τ) : TX (am a 8) (an a 1) σ τ := ⟨h.t, fun k hk => h.wa.2.2.2.2.2.2.2.2.1 k hk, h.ct.1, h.mt.1, fun k hk => h.ct.2 k hk, fun k hk => h.mt.2 k hk⟩
theorem REL.pp (h : REL a σ τ) {σ' τ' : St} (c : pC σ σ') (m : pM τ τ') : REL a σ' τ' := by
  refine h.ir ⟨?_, ?_, ?_, fun t ht => ?_, ?_, ?_, ?_, ?_, fun t ht => ?_, ?_⟩ ⟨?_, ?_, ?_, ?_, ?_, ?_, ?_, ?_, ?_, ?_⟩
  · exact c.1 10 (by decide) (by decide) (by decide) (by decide)
  · exact c.1 81 (by decide) (by decide) (by decide) (by decide)
  · exact c.1 112 (by decide) (by decide) (by decide) (by decide)
  · exact c.1 _ (by omega) (by omega) (by omega) (by omega)
  · exact c.2.2 2
  · exact c.2.2 3
  · exact c.2.2 6
  · exact c.2.2 11
  · exact c.2.2 _
  · rw [c.2.1 57 (by decide), c.2.1 58 (by decide)]; exact h.so
  · exact m.1 2 (by omega) (by decide)
  · exact m.1 8 (by omega) (by decide)
  · exact m.1 9 (by omega) (by decide)
  · exact m.2 1 (by omega)
  · exact m.2 2 (by omega)
  · exact m.2 4 (by omega)
  · exact m.2 5 (by omega)
  · exact m.2 6 (by omega)
  · exact m.2 7 (by omega)
  · exact m.2 8 (by omega)
theorem reads_lock (h : REL a σ τ) :
    (∃ σ' τ' m, m ≤ 50 ∧ f_X5_readText σ = some (-nI 1, σ') ∧ f_X11_reads τ = some (-nI 1, τ') ∧ gi σ' 98 = nI m ∧ gi τ' 24 = nI m ∧ (∀ k, k < m → RunR k σ' τ') ∧ REL a σ' τ') ∨
    (∃ σ' τ' x, x ≤ 400 ∧ f_X5_readText σ = some (nI x, σ') ∧ f_X11_reads τ = some (nI x, τ') ∧ REL a σ' τ' ∧ ∃ m, m ≤ 50 ∧ gi τ' 24 = nI m) := by
  have hx := h.tx
  have hL := hx.l
  have c0 : pC σ (si (si σ 98 (nI 0)) 83 (nI 0)) := ⟨fun k a b c d => by simp (disch := omega) only [gi_si_e, gi_si_n, gp_sp_e, gp_sp_n, gr_sr_e, gr_sr_n, gi_sp, gi_sr, gp_si, gp_sr, gr_si, gr_sp, upd_e, upd_n, un_e, un_n, an_sn_e, an_sn_n, an_sm, an_sv, am_sn, am_sm_e, am_sm_n, am_sv, ai_sn, ai_sm, ai_sv_e, ai_sv_n, reduceIte, or_false, false_or, or_true, true_or, or_self, and_true, true_and, and_false, false_and, not_true_eq_false, not_false_eq_true], fun _ _ => rfl, fun _ => rfl⟩
  have m0 : pM τ (si (si (si τ 13 (nI 0)) 17 (-nI 1)) 24 (nI 0)) := ⟨fun k a b => by simp (disch := omega) only [gi_si_e, gi_si_n, gp_sp_e, gp_sp_n, gr_sr_e, gr_sr_n, gi_sp, gi_sr, gp_si, gp_sr, gr_si, gr_sp, upd_e, upd_n, un_e, un_n, an_sn_e, an_sn_n, an_sm, an_sv, am_sn, am_sm_e, am_sm_n, am_sv, ai_sn, ai_sm, ai_sv_e, ai_sv_n, reduceIte, or_false, false_or, or_true, true_or, or_self, and_true, true_and, and_false, false_and, not_true_eq_false, not_false_eq_true], fun _ _ => rfl⟩
  obtain ⟨σ1, τ1, s, e, n1, n2, n3, n4, n5, n6⟩ := next_lock (hx.p c0 m0) (e0 := 0) (by simp (disch := omega) only [gi_si_e, gi_si_n, gp_sp_e, gp_sp_n, gr_sr_e, gr_sr_n, gi_sp, gi_sr, gp_si, gp_sr, gr_si, gr_sp, upd_e, upd_n, un_e, un_n, an_sn_e, an_sn_n, an_sm, an_sv, am_sn, am_sm_e, am_sm_n, am_sv, ai_sn, ai_sm, ai_sv_e, ai_sv_n, reduceIte, or_false, false_or, or_true, true_or, or_self, and_true, true_and, and_false, false_and, not_true_eq_false, not_false_eq_true]) (by simp (disch := omega) only [gi_si_e, gi_si_n, gp_sp_e, gp_sp_n, gr_sr_e, gr_sr_n, gi_sp, gi_sr, gp_si, gp_sr, gr_si, gr_sp, upd_e, upd_n, un_e, un_n, an_sn_e, an_sn_n, an_sm, an_sv, am_sn, am_sm_e, am_sm_n, am_sv, ai_sn, ai_sm, ai_sv_e, ai_sv_n, reduceIte, or_false, false_or, or_true, true_or, or_self, and_true, true_and, and_false, false_and, not_true_eq_false, not_false_eq_true]) (Nat.zero_le _)
  have g98 : gi σ1 98 = nI 0 := by rw [n5.1 98 (by decide) (by decide)]; simp (disch := omega) only [gi_si_e, gi_si_n, gp_sp_e, gp_sp_n, gr_sr_e, gr_sr_n, gi_sp, gi_sr, gp_si, gp_sr, gr_si, gr_sp, upd_e, upd_n, un_e, un_n, an_sn_e, an_sn_n, an_sm, an_sv, am_sn, am_sm_e, am_sm_n, am_sv, ai_sn, ai_sm, ai_sv_e, ai_sv_n, reduceIte, or_false, false_or, or_true, true_or, or_self, and_true, true_and, and_false, false_and, not_true_eq_false, not_false_eq_true]
  have g24 : gi τ1 24 = nI 0 := by rw [n6.1 24 (by decide) (by decide) (by decide) (by decide)]; simp (disch := omega) only [gi_si_e, gi_si_n, gp_sp_e, gp_sp_n, gr_sr_e, gr_sr_n, gi_sp, gi_sr, gp_si, gp_sr, gr_si, gr_sp, upd_e, upd_n, un_e, un_n, an_sn_e, an_sn_n, an_sm, an_sv, am_sn, am_sm_e, am_sm_n, am_sv, ai_sn, ai_sm, ai_sv_e, ai_sv_n, reduceIte, or_false, false_or, or_true, true_or, or_self, and_true, true_and, and_false, false_and, not_true_eq_false, not_false_eq_true]
  have g17 : gi τ1 17 = -nI 1 := by rw [n6.1 17 (by decide) (by decide) (by decide) (by decide)]; simp (disch := omega) only [gi_si_e, gi_si_n, gp_sp_e, gp_sp_n, gr_sr_e, gr_sr_n, gi_sp, gi_sr, gp_si, gp_sr, gr_si, gr_sp, upd_e, upd_n, un_e, un_n, an_sn_e, an_sn_n, an_sm, an_sv, am_sn, am_sm_e, am_sm_n, am_sv, ai_sn, ai_sm, ai_sv_e, ai_sv_n, reduceIte, or_false, false_or, or_true, true_or, or_self, and_true, true_and, and_false, false_and, not_true_eq_false, not_false_eq_true]
  have c1 := c0.trans (n5.r 0).p
  have m1 := m0.trans (n6.w.r 0).p
  have n1' : f_X9_toFirstToken (si σ 98 0) = some σ1 := by unfold f_X9_toFirstToken; rw [show f_X9_toNextToken (si (si σ 98 0) 83 0) = _ from n1]; rfl
  have n2' : f_X11_next (si (si (si τ 13 0) 17 (-1)) 24 0) = some τ1 := n2
  rcases reads_L _ (fu := FU) (gu := FU) (hx.p c1 m1) n3 g98 g24 g17 (by omega) (fun k hk => by omega) rfl (by unfold FU; omega) (by unfold FU; omega) with ⟨σ', τ', m, q1, q2, q3, q4, q5, q6, q7, q8, q9⟩ | ⟨σ', τ', x, q1, q2, q3, q4, q5, q6, q7⟩
  · refine Or.inl ⟨σ', τ', m, q1, ?_, ?_, q5, q6, q7, h.pp (c1.trans q8) (m1.trans q9)⟩
    · unfold f_X5_readText; rw [n1', bnd_s, q2, bndR_r]; rfl
    · unfold f_X11_reads; rw [bnd_s, n2', bnd_s, q3, bnd_s, q4]
  · refine Or.inr ⟨σ', τ', x, by omega, ?_, ?_, h.pp (c1.trans q5) (m1.trans q6), q7⟩
    · unfold f_X5_readText; rw [n1', bnd_s, q2, bndR_l]; rfl
    · unfold f_X11_reads; rw [bnd_s, n2', bnd_s, q3, bnd_s, q4]
theorem P_fault (h : REL a σ τ) : AN (f_X10_fault σ) (f_X11_fault τ) := by
  rcases reads_lock h with ⟨σ', τ', m, q1, q2, q3, q4, q5, q6, q7⟩ | ⟨σ', τ', x, q1, q2, q3, q4, q5⟩
  · refine ⟨-nI 1, σ', _, a, ?_, ?_, q7.told 0⟩
    · unfold f_X10_fault; rw [q2]; rfl
    · unfold f_X11_fault; rw [q3]; rfl
  · refine ⟨nI x, σ', _, a, ?_, ?_, q4.told 0⟩
    · unfold f_X10_fault; rw [q2]; rfl
    · unfold f_X11_fault; rw [q3]; rfl
end RZ
