def wl (w : Nat) : Nat := zSl.getD w 0
def wd (w k : Nat) : Nat := ((zSb.getD w []).getD k 0).toNatClampNeg
theorem sLen_wl (w : Nat) : sLen w = nI (wl w) := rfl
theorem wl_le : ∀ w, w < 9 → 1 ≤ wl w ∧ wl w ≤ 5 := by decide +kernel
theorem sCh_wd : ∀ w, w < 9 → ∀ k, k < 5 → k < wl w → sCh w (nI k) = nI (wd w k) ∧ wd w k < 128 := by decide +kernel
def Mt (b : Nat → Nat) (s e w : Nat) : Prop := e - s = wl w ∧ ∀ k, k < wl w → b (s + k) = wd w k
section WD
variable {b : Nat → Nat} {L : Nat} {σ τ : St}
theorem TOK.c82 {s e : Nat} (h : TOK b L s e σ τ) : gi σ 82 = nI s := h.1
theorem TOK.c83 {s e : Nat} (h : TOK b L s e σ τ) : gi σ 83 = nI e := h.2.1
theorem TOK.m15 {s e : Nat} (h : TOK b L s e σ τ) : gi τ 15 = nI s := h.2.2.1
theorem TOK.m13 {s e : Nat} (h : TOK b L s e σ τ) : gi τ 13 = nI e := h.2.2.2.1
theorem TOK.se {s e : Nat} (h : TOK b L s e σ τ) : s ≤ e := h.2.2.2.2.1
theorem TOK.eL {s e : Nat} (h : TOK b L s e σ τ) : e ≤ L := h.2.2.2.2.2.1
theorem tok_L (h : TX b L σ τ) {s e w : Nat} (t : TOK b L s e σ τ) (hw : w < 9) (hl : e - s = wl w) : ∀ (d : Nat) {fu i : Nat}, wl w - i = d → i ≤ wl w → d < fu →
    ((∀ k, i ≤ k → k < wl w → b (s + k) = wd w k) ∧ f_X9_isToken_L23 w σ fu (nI (s + i)) = some (.inr ())) ∨ ((∃ k, k < wl w ∧ b (s + k) ≠ wd w k) ∧ f_X9_isToken_L23 w σ fu (nI (s + i)) = some (.inl (nI 0))) := by
  have hL := h.l
  have hse := t.se
  have heL := t.eL
  have h5 := wl_le w hw
  intro d
  induction d with
  | zero =>
    intro fu i hd hi hf
    obtain ⟨fu, rfl⟩ : ∃ f, fu = f + 1 := ⟨fu - 1, by omega⟩
    refine Or.inl ⟨fun k h1 h2 => by omega, ?_⟩
    unfold f_X9_isToken_L23; simp (disch := omega) only [↓bnd_s, ↓bnd2_s, ↓bnd3_s, ↓bnd4_s, ↓bnd5_s, ↓bndR_l, ↓bndR_r, ↓bndX_l, ↓bndX_r, bnd_s, bnd2_s, bnd3_s, bnd4_s, bnd5_s, bndR_l, bndR_r, bndX_l, bndX_r, nq_lt, nq_le, nq_inj, nq_add, nq_mul, nq_sub, nq_div, nq_neg1, nq_clamp, nq_ne1, nq_le1, ne1_lt, n1_lt0, n1_lt, n1_ne, nz0, nz1, nz2, nz3, nz4, nz5, nz6, nz8, nz10, nz31, nz32, nz50, nz400, nz800, nz3200, nz20000, nlt_f, nlt_t, nle_f, nle_t, neq_f, neq_t, gi_si_e, gi_si_n, gp_sp_e, gp_sp_n, gr_sr_e, gr_sr_n, gi_sp, gi_sr, gp_si, gp_sr, gr_si, gr_sp, upd_e, upd_n, un_e, un_n, an_sn_e, an_sn_n, an_sm, an_sv, am_sn, am_sm_e, am_sm_n, am_sv, ai_sn, ai_sm, ai_sv_e, ai_sv_n, reduceIte, or_false, false_or, or_true, true_or, or_self, and_true, true_and, and_false, false_and, not_true_eq_false, not_false_eq_true, t.c83]
  | succ d ih =>
    intro fu i hd hi hf
    obtain ⟨fu, rfl⟩ : ∃ f, fu = f + 1 := ⟨fu - 1, by omega⟩
    have hs2 : s + i < L := by omega
    have hb := h.by9 hs2
    obtain ⟨c1, c2⟩ := sCh_wd w hw i (by omega) (by omega)
    have hz : zSl.getD w 0 = wl w := rfl
    have ei : s + i - s = i := by omega
    by_cases e1 : b (s + i) = wd w i
    · rcases ih (fu := fu) (i := i + 1) (by omega) (by omega) (by omega) with ⟨g1, g2⟩ | ⟨g1, g2⟩
      · refine Or.inl ⟨fun k h1 h2 => ?_, ?_⟩
        · by_cases ek : k = i
          · rw [ek]; exact e1
          · exact g1 k (by omega) h2
        · unfold f_X9_isToken_L23; simp (disch := omega) only [↓bnd_s, ↓bnd2_s, ↓bnd3_s, ↓bnd4_s, ↓bnd5_s, ↓bndR_l, ↓bndR_r, ↓bndX_l, ↓bndX_r, bnd_s, bnd2_s, bnd3_s, bnd4_s, bnd5_s, bndR_l, bndR_r, bndX_l, bndX_r, nq_lt, nq_le, nq_inj, nq_add, nq_mul, nq_sub, nq_div, nq_neg1, nq_clamp, nq_ne1, nq_le1, ne1_lt, n1_lt0, n1_lt, n1_ne, nz0, nz1, nz2, nz3, nz4, nz5, nz6, nz8, nz10, nz31, nz32, nz50, nz400, nz800, nz3200, nz20000, nlt_f, nlt_t, nle_f, nle_t, neq_f, neq_t, gi_si_e, gi_si_n, gp_sp_e, gp_sp_n, gr_sr_e, gr_sr_n, gi_sp, gi_sr, gp_si, gp_sr, gr_si, gr_sp, upd_e, upd_n, un_e, un_n, an_sn_e, an_sn_n, an_sm, an_sv, am_sn, am_sm_e, am_sm_n, am_sv, ai_sn, ai_sm, ai_sv_e, ai_sv_n, reduceIte, or_false, false_or, or_true, true_or, or_self, and_true, true_and, and_false, false_and, not_true_eq_false, not_false_eq_true, t.c83, t.c82, hz, ei, c1, h.cb hs2, cB_eq, e1]; exact g2
      · refine Or.inr ⟨g1, ?_⟩
        unfold f_X9_isToken_L23; simp (disch := omega) only [↓bnd_s, ↓bnd2_s, ↓bnd3_s, ↓bnd4_s, ↓bnd5_s, ↓bndR_l, ↓bndR_r, ↓bndX_l, ↓bndX_r, bnd_s, bnd2_s, bnd3_s, bnd4_s, bnd5_s, bndR_l, bndR_r, bndX_l, bndX_r, nq_lt, nq_le, nq_inj, nq_add, nq_mul, nq_sub, nq_div, nq_neg1, nq_clamp, nq_ne1, nq_le1, ne1_lt, n1_lt0, n1_lt, n1_ne, nz0, nz1, nz2, nz3, nz4, nz5, nz6, nz8, nz10, nz31, nz32, nz50, nz400, nz800, nz3200, nz20000, nlt_f, nlt_t, nle_f, nle_t, neq_f, neq_t, gi_si_e, gi_si_n, gp_sp_e, gp_sp_n, gr_sr_e, gr_sr_n, gi_sp, gi_sr, gp_si, gp_sr, gr_si, gr_sp, upd_e, upd_n, un_e, un_n, an_sn_e, an_sn_n, an_sm, an_sv, am_sn, am_sm_e, am_sm_n, am_sv, ai_sn, ai_sm, ai_sv_e, ai_sv_n, reduceIte, or_false, false_or, or_true, true_or, or_self, and_true, true_and, and_false, false_and, not_true_eq_false, not_false_eq_true, t.c83, t.c82, hz, ei, c1, h.cb hs2, cB_eq, e1]; exact g2
    · refine Or.inr ⟨⟨i, by omega, e1⟩, ?_⟩
      unfold f_X9_isToken_L23; simp (disch := omega) only [↓bnd_s, ↓bnd2_s, ↓bnd3_s, ↓bnd4_s, ↓bnd5_s, ↓bndR_l, ↓bndR_r, ↓bndX_l, ↓bndX_r, bnd_s, bnd2_s, bnd3_s, bnd4_s, bnd5_s, bndR_l, bndR_r, bndX_l, bndX_r, nq_lt, nq_le, nq_inj, nq_add, nq_mul, nq_sub, nq_div, nq_neg1, nq_clamp, nq_ne1, nq_le1, ne1_lt, n1_lt0, n1_lt, n1_ne, nz0, nz1, nz2, nz3, nz4, nz5, nz6, nz8, nz10, nz31, nz32, nz50, nz400, nz800, nz3200, nz20000, nlt_f, nlt_t, nle_f, nle_t, neq_f, neq_t, gi_si_e, gi_si_n, gp_sp_e, gp_sp_n, gr_sr_e, gr_sr_n, gi_sp, gi_sr, gp_si, gp_sr, gr_si, gr_sp, upd_e, upd_n, un_e, un_n, an_sn_e, an_sn_n, an_sm, an_sv, am_sn, am_sm_e, am_sm_n, am_sv, ai_sn, ai_sm, ai_sv_e, ai_sv_n, reduceIte, or_false, false_or, or_true, true_or, or_self, and_true, true_and, and_false, false_and, not_true_eq_false, not_false_eq_true, t.c83, t.c82, hz, ei, c1, h.cb hs2, cB_eq, e1]
theorem tok_eq (h : TX b L σ τ) {s e w : Nat} (t : TOK b L s e σ τ) (hw : w < 9) : (Mt b s e w ∧ f_X9_isToken w σ = some (nI 1)) ∨ (¬ Mt b s e w ∧ f_X9_isToken w σ = some (nI 0)) := by
  have hL := h.l
  have hse := t.se
  have heL := t.eL
  have h5 := wl_le w hw
  by_cases hl : e - s = wl w
  · rcases tok_L h t hw hl _ (fu := FU) (i := 0) rfl (by omega) (by unfold FU; omega) with ⟨g1, g2⟩ | ⟨⟨k, g1, g3⟩, g2⟩
    · refine Or.inl ⟨⟨hl, fun k hk => g1 k (by omega) hk⟩, ?_⟩
      rw [Nat.add_zero] at g2
      unfold f_X9_isToken; simp (disch := omega) only [↓bnd_s, ↓bnd2_s, ↓bnd3_s, ↓bnd4_s, ↓bnd5_s, ↓bndR_l, ↓bndR_r, ↓bndX_l, ↓bndX_r, bnd_s, bnd2_s, bnd3_s, bnd4_s, bnd5_s, bndR_l, bndR_r, bndX_l, bndX_r, nq_lt, nq_le, nq_inj, nq_add, nq_mul, nq_sub, nq_div, nq_neg1, nq_clamp, nq_ne1, nq_le1, ne1_lt, n1_lt0, n1_lt, n1_ne, nz0, nz1, nz2, nz3, nz4, nz5, nz6, nz8, nz10, nz31, nz32, nz50, nz400, nz800, nz3200, nz20000, nlt_f, nlt_t, nle_f, nle_t, neq_f, neq_t, gi_si_e, gi_si_n, gp_sp_e, gp_sp_n, gr_sr_e, gr_sr_n, gi_sp, gi_sr, gp_si, gp_sr, gr_si, gr_sp, upd_e, upd_n, un_e, un_n, an_sn_e, an_sn_n, an_sm, an_sv, am_sn, am_sm_e, am_sm_n, am_sv, ai_sn, ai_sm, ai_sv_e, ai_sv_n, reduceIte, or_false, false_or, or_true, true_or, or_self, and_true, true_and, and_false, false_and, not_true_eq_false, not_false_eq_true, t.c83, t.c82, sLen_wl, hl, g2]
    · refine Or.inr ⟨fun m => g3 (m.2 k g1), ?_⟩
      rw [Nat.add_zero] at g2
      unfold f_X9_isToken; simp (disch := omega) only [↓bnd_s, ↓bnd2_s, ↓bnd3_s, ↓bnd4_s, ↓bnd5_s, ↓bndR_l, ↓bndR_r, ↓bndX_l, ↓bndX_r, bnd_s, bnd2_s, bnd3_s, bnd4_s, bnd5_s, bndR_l, bndR_r, bndX_l, bndX_r, nq_lt, nq_le, nq_inj, nq_add, nq_mul, nq_sub, nq_div, nq_neg1, nq_clamp, nq_ne1, nq_le1, ne1_lt, n1_lt0, n1_lt, n1_ne, nz0, nz1, nz2, nz3, nz4, nz5, nz6, nz8, nz10, nz31, nz32, nz50, nz400, nz800, nz3200, nz20000, nlt_f, nlt_t, nle_f, nle_t, neq_f, neq_t, gi_si_e, gi_si_n, gp_sp_e, gp_sp_n, gr_sr_e, gr_sr_n, gi_sp, gi_sr, gp_si, gp_sr, gr_si, gr_sp, upd_e, upd_n, un_e, un_n, an_sn_e, an_sn_n, an_sm, an_sv, am_sn, am_sm_e, am_sm_n, am_sv, ai_sn, ai_sm, ai_sv_e, ai_sv_n, reduceIte, or_false, false_or, or_true, true_or, or_self, and_true, true_and, and_false, false_and, not_true_eq_false, not_false_eq_true, t.c83, t.c82, sLen_wl, hl, g2, id]
  · refine Or.inr ⟨fun m => hl m.1, ?_⟩
    unfold f_X9_isToken; simp (disch := omega) only [↓bnd_s, ↓bnd2_s, ↓bnd3_s, ↓bnd4_s, ↓bnd5_s, ↓bndR_l, ↓bndR_r, ↓bndX_l, ↓bndX_r, bnd_s, bnd2_s, bnd3_s, bnd4_s, bnd5_s, bndR_l, bndR_r, bndX_l, bndX_r, nq_lt, nq_le, nq_inj, nq_add, nq_mul, nq_sub, nq_div, nq_neg1, nq_clamp, nq_ne1, nq_le1, ne1_lt, n1_lt0, n1_lt, n1_ne, nz0, nz1, nz2, nz3, nz4, nz5, nz6, nz8, nz10, nz31, nz32, nz50, nz400, nz800, nz3200, nz20000, nlt_f, nlt_t, nle_f, nle_t, neq_f, neq_t, gi_si_e, gi_si_n, gp_sp_e, gp_sp_n, gr_sr_e, gr_sr_n, gi_sp, gi_sr, gp_si, gp_sr, gr_si, gr_sp, upd_e, upd_n, un_e, un_n, an_sn_e, an_sn_n, an_sm, an_sv, am_sn, am_sm_e, am_sm_n, am_sv, ai_sn, ai_sm, ai_sv_e, ai_sv_n, reduceIte, or_false, false_or, or_true, true_or, or_self, and_true, true_and, and_false, false_and, not_true_eq_false, not_false_eq_true, t.c83, t.c82, sLen_wl]
/-- the reference's letters of a word -/
def isW (w : Nat) : Prop := w < 6 ∨ w = 8
theorem isW_all0 : ∀ w : Nat, w < 9 → (w = 6 ∨ w = 7) ∨ ((3 ≤ wl w ∧ wl w ≤ 5) ∧ (∀ k : Nat, k < 5 → (wl w ≤ k ∨ wd w k ≠ 0) ∧ (k < wl w ∨ wd w k = 0) ∧ wd w k < 1000) ∧ al (wd w 0) = 0) := by decide +kernel
theorem isW_all (w : Nat) (hw : w < 9) (h6 : w ≠ 6) (h7 : w ≠ 7) : (3 ≤ wl w ∧ wl w ≤ 5) ∧ (∀ k, k < 5 → k < wl w → wd w k ≠ 0) ∧ (∀ k, k < 5 → wl w ≤ k → wd w k = 0) ∧ al (wd w 0) = 0 ∧ ∀ k, k < 5 → wd w k < 1000 := by
  rcases isW_all0 w hw with h | ⟨h1, h2, h3⟩
  · omega
  · refine ⟨h1, fun k hk hl => ?_, fun k hk hl => ?_, h3, fun k hk => (h2 k hk).2.2⟩
    · rcases (h2 k hk).1 with q | q
      · omega
      · exact q
    · rcases (h2 k hk).2.1 with q | q
      · omega
      · exact q
def lt9 (b : Nat → Nat) (s e k : Nat) : Nat := if s + k < e then b (s + k) else 0
theorem letterAt_eq (h : TX b L σ τ) {s e k : Nat} (t : TOK b L s e σ τ) (hk : k < 5) : f_X11_letterAt (nI k) τ = some (nI (lt9 b s e k)) := by
  have hL := h.l
  have heL := t.eL
  have hse := t.se
  unfold f_X11_letterAt lt9
  by_cases e1 : s + k < e
  · rw [if_pos e1]
    have hb := h.by9 (show s + k < L by omega)
    simp (disch := omega) only [↓bnd_s, ↓bnd2_s, ↓bnd3_s, ↓bnd4_s, ↓bnd5_s, ↓bndR_l, ↓bndR_r, ↓bndX_l, ↓bndX_r, bnd_s, bnd2_s, bnd3_s, bnd4_s, bnd5_s, bndR_l, bndR_r, bndX_l, bndX_r, nq_lt, nq_le, nq_inj, nq_add, nq_mul, nq_sub, nq_div, nq_neg1, nq_clamp, nq_ne1, nq_le1, ne1_lt, n1_lt0, n1_lt, n1_ne, nz0, nz1, nz2, nz3, nz4, nz5, nz6, nz8, nz10, nz31, nz32, nz50, nz400, nz800, nz3200, nz20000, nlt_f, nlt_t, nle_f, nle_t, neq_f, neq_t, gi_si_e, gi_si_n, gp_sp_e, gp_sp_n, gr_sr_e, gr_sr_n, gi_sp, gi_sr, gp_si, gp_sr, gr_si, gr_sp, upd_e, upd_n, un_e, un_n, an_sn_e, an_sn_n, an_sm, an_sv, am_sn, am_sm_e, am_sm_n, am_sv, ai_sn, ai_sm, ai_sv_e, ai_sv_n, reduceIte, or_false, false_or, or_true, true_or, or_self, and_true, true_and, and_false, false_and, not_true_eq_false, not_false_eq_true, t.m13, t.m15, h.mb (show s + k < L by omega)]
  · rw [if_neg e1]
    simp (disch := omega) only [↓bnd_s, ↓bnd2_s, ↓bnd3_s, ↓bnd4_s, ↓bnd5_s, ↓bndR_l, ↓bndR_r, ↓bndX_l, ↓bndX_r, bnd_s, bnd2_s, bnd3_s, bnd4_s, bnd5_s, bndR_l, bndR_r, bndX_l, bndX_r, nq_lt, nq_le, nq_inj, nq_add, nq_mul, nq_sub, nq_div, nq_neg1, nq_clamp, nq_ne1, nq_le1, ne1_lt, n1_lt0, n1_lt, n1_ne, nz0, nz1, nz2, nz3, nz4, nz5, nz6, nz8, nz10, nz31, nz32, nz50, nz400, nz800, nz3200, nz20000, nlt_f, nlt_t, nle_f, nle_t, neq_f, neq_t, gi_si_e, gi_si_n, gp_sp_e, gp_sp_n, gr_sr_e, gr_sr_n, gi_sp, gi_sr, gp_si, gp_sr, gr_si, gr_sp, upd_e, upd_n, un_e, un_n, an_sn_e, an_sn_n, an_sm, an_sv, am_sn, am_sm_e, am_sm_n, am_sv, ai_sn, ai_sm, ai_sv_e, ai_sv_n, reduceIte, or_false, false_or, or_true, true_or, or_self, and_true, true_and, and_false, false_and, not_true_eq_false, not_false_eq_true, t.m13, t.m15]
theorem lt9_lt (h : TX b L σ τ) {s e : Nat} (t : TOK b L s e σ τ) (k : Nat) : lt9 b s e k < 256 := by
  have heL := t.eL
  unfold lt9
  split
  · have := h.by9 (show s + k < L by omega); omega
  · omega
theorem Mt_iff (h : TX b L σ τ) {s e w : Nat} (t : TOK b L s e σ τ) (hw : w < 9) (h6 : w ≠ 6) (h7 : w ≠ 7) : Mt b s e w ↔ (gi τ 14 = nI 1 ∧ e - s ≤ 5 ∧ ∀ k, k < 5 → lt9 b s e k = wd w k) := by
  obtain ⟨⟨w1, w2⟩, w3, w4, w5, -⟩ := isW_all w hw h6 h7
  have hL := h.l
  have heL := t.eL
  have hse := t.se
  constructor
  · rintro ⟨m1, m2⟩
    refine ⟨?_, by omega, fun k hk => ?_⟩
    · have m3 := m2 0 (by omega)
      rw [Nat.add_zero] at m3
      rcases t.2.2.2.2.2.2 with ⟨q1, q2⟩ | ⟨q1, q2, q3, -⟩
      · omega
      · rw [q3, m3, tcd_0 w5]
    · unfold lt9
      by_cases e1 : s + k < e
      · rw [if_pos e1]; exact m2 k (by omega)
      · rw [if_neg e1]; exact (w4 k hk (by omega)).symm
  · rintro ⟨m1, m2, m3⟩
    have big : ∀ k, k < 5 → k < wl w → s + k < e ∧ b (s + k) = wd w k := by
      intro k hk hk2
      have q := m3 k hk
      unfold lt9 at q
      by_cases e1 : s + k < e
      · rw [if_pos e1] at q; exact ⟨e1, q⟩
      · rw [if_neg e1] at q; exact absurd q.symm (w3 k hk hk2)
    have hge := (big (wl w - 1) (by omega) (by omega)).1
    refine ⟨?_, fun k hk => (big k (by omega) hk).2⟩
    by_cases e5 : wl w = 5
    · omega
    · have q := m3 (wl w) (by omega)
      rw [w4 (wl w) (by omega) (Nat.le_refl _)] at q
      unfold lt9 at q
      by_cases e1 : s + wl w < e
      · rw [if_pos e1] at q
        have := h.by9 (show s + wl w < L by omega)
        omega
      · omega
theorem word_eq (h : TX b L σ τ) {s e w : Nat} (t : TOK b L s e σ τ) (hw : w < 9) (h6 : w ≠ 6) (h7 : w ≠ 7) :
    (Mt b s e w → f_X11_isWord (nI (wd w 0)) (nI (wd w 1)) (nI (wd w 2)) (nI (wd w 3)) (nI (wd w 4)) τ = some (nI 1)) ∧ (¬ Mt b s e w → f_X11_isWord (nI (wd w 0)) (nI (wd w 1)) (nI (wd w 2)) (nI (wd w 3)) (nI (wd w 4)) τ = some (nI 0)) := by
  have hL := h.l
  have heL := t.eL
  have hse := t.se
  obtain ⟨-, -, -, -, w5⟩ := isW_all w hw h6 h7
  have v0 := w5 0 (by omega)
  have v1 := w5 1 (by omega)
  have v2 := w5 2 (by omega)
  have v3 := w5 3 (by omega)
  have v4 := w5 4 (by omega)
  have l0 := lt9_lt h t 0
  have l1 := lt9_lt h t 1
  have l2 := lt9_lt h t 2
  have l3 := lt9_lt h t 3
  have l4 := lt9_lt h t 4
  have a0 := letterAt_eq h t (k := 0) (by omega)
  have a1 := letterAt_eq h t (k := 1) (by omega)
  have a2 := letterAt_eq h t (k := 2) (by omega)
  have a3 := letterAt_eq h t (k := 3) (by omega)
  have a4 := letterAt_eq h t (k := 4) (by omega)
  rw [Mt_iff h t hw h6 h7]
  constructor
  · rintro ⟨m1, m2, m3⟩
    unfold f_X11_isWord
    rw [← m3 0 (by omega), ← m3 1 (by omega), ← m3 2 (by omega), ← m3 3 (by omega), ← m3 4 (by omega)]
    rw [show (5 : Int32) = nI 5 from rfl]
    simp (disch := omega) only [↓bnd_s, ↓bnd2_s, ↓bnd3_s, ↓bnd4_s, ↓bnd5_s, ↓bndR_l, ↓bndR_r, ↓bndX_l, ↓bndX_r, bnd_s, bnd2_s, bnd3_s, bnd4_s, bnd5_s, bndR_l, bndR_r, bndX_l, bndX_r, nq_lt, nq_le, nq_inj, nq_add, nq_mul, nq_sub, nq_div, nq_neg1, nq_clamp, nq_ne1, nq_le1, ne1_lt, n1_lt0, n1_lt, n1_ne, nz0, nz1, nz2, nz3, nz4, nz5, nz6, nz8, nz10, nz31, nz32, nz50, nz400, nz800, nz3200, nz20000, nlt_f, nlt_t, nle_f, nle_t, neq_f, neq_t, gi_si_e, gi_si_n, gp_sp_e, gp_sp_n, gr_sr_e, gr_sr_n, gi_sp, gi_sr, gp_si, gp_sr, gr_si, gr_sp, upd_e, upd_n, un_e, un_n, an_sn_e, an_sn_n, an_sm, an_sv, am_sn, am_sm_e, am_sm_n, am_sv, ai_sn, ai_sm, ai_sv_e, ai_sv_n, reduceIte, or_false, false_or, or_true, true_or, or_self, and_true, true_and, and_false, false_and, not_true_eq_false, not_false_eq_true, m1, t.m13, t.m15, a0, a1, a2, a3, a4]
  · intro hm
    unfold f_X11_isWord
    by_cases m1 : gi τ 14 = nI 1
    · by_cases m2 : 5 < e - s
      · simp (disch := omega) only [↓bnd_s, ↓bnd2_s, ↓bnd3_s, ↓bnd4_s, ↓bnd5_s, ↓bndR_l, ↓bndR_r, ↓bndX_l, ↓bndX_r, bnd_s, bnd2_s, bnd3_s, bnd4_s, bnd5_s, bndR_l, bndR_r, bndX_l, bndX_r, nq_lt, nq_le, nq_inj, nq_add, nq_mul, nq_sub, nq_div, nq_neg1, nq_clamp, nq_ne1, nq_le1, ne1_lt, n1_lt0, n1_lt, n1_ne, nz0, nz1, nz2, nz3, nz4, nz5, nz6, nz8, nz10, nz31, nz32, nz50, nz400, nz800, nz3200, nz20000, nlt_f, nlt_t, nle_f, nle_t, neq_f, neq_t, gi_si_e, gi_si_n, gp_sp_e, gp_sp_n, gr_sr_e, gr_sr_n, gi_sp, gi_sr, gp_si, gp_sr, gr_si, gr_sp, upd_e, upd_n, un_e, un_n, an_sn_e, an_sn_n, an_sm, an_sv, am_sn, am_sm_e, am_sm_n, am_sv, ai_sn, ai_sm, ai_sv_e, ai_sv_n, reduceIte, or_false, false_or, or_true, true_or, or_self, and_true, true_and, and_false, false_and, not_true_eq_false, not_false_eq_true, m1, t.m13, t.m15]
      · simp (disch := omega) only [↓bnd_s, ↓bnd2_s, ↓bnd3_s, ↓bnd4_s, ↓bnd5_s, ↓bndR_l, ↓bndR_r, ↓bndX_l, ↓bndX_r, bnd_s, bnd2_s, bnd3_s, bnd4_s, bnd5_s, bndR_l, bndR_r, bndX_l, bndX_r, nq_lt, nq_le, nq_inj, nq_add, nq_mul, nq_sub, nq_div, nq_neg1, nq_clamp, nq_ne1, nq_le1, ne1_lt, n1_lt0, n1_lt, n1_ne, nz0, nz1, nz2, nz3, nz4, nz5, nz6, nz8, nz10, nz31, nz32, nz50, nz400, nz800, nz3200, nz20000, nlt_f, nlt_t, nle_f, nle_t, neq_f, neq_t, gi_si_e, gi_si_n, gp_sp_e, gp_sp_n, gr_sr_e, gr_sr_n, gi_sp, gi_sr, gp_si, gp_sr, gr_si, gr_sp, upd_e, upd_n, un_e, un_n, an_sn_e, an_sn_n, an_sm, an_sv, am_sn, am_sm_e, am_sm_n, am_sv, ai_sn, ai_sm, ai_sv_e, ai_sv_n, reduceIte, or_false, false_or, or_true, true_or, or_self, and_true, true_and, and_false, false_and, not_true_eq_false, not_false_eq_true, m1, t.m13, t.m15, a0]
        by_cases c0 : lt9 b s e 0 = wd w 0
        · simp (disch := omega) only [↓bnd_s, ↓bnd2_s, ↓bnd3_s, ↓bnd4_s, ↓bnd5_s, ↓bndR_l, ↓bndR_r, ↓bndX_l, ↓bndX_r, bnd_s, bnd2_s, bnd3_s, bnd4_s, bnd5_s, bndR_l, bndR_r, bndX_l, bndX_r, nq_lt, nq_le, nq_inj, nq_add, nq_mul, nq_sub, nq_div, nq_neg1, nq_clamp, nq_ne1, nq_le1, ne1_lt, n1_lt0, n1_lt, n1_ne, nz0, nz1, nz2, nz3, nz4, nz5, nz6, nz8, nz10, nz31, nz32, nz50, nz400, nz800, nz3200, nz20000, nlt_f, nlt_t, nle_f, nle_t, neq_f, neq_t, gi_si_e, gi_si_n, gp_sp_e, gp_sp_n, gr_sr_e, gr_sr_n, gi_sp, gi_sr, gp_si, gp_sr, gr_si, gr_sp, upd_e, upd_n, un_e, un_n, an_sn_e, an_sn_n, an_sm, an_sv, am_sn, am_sm_e, am_sm_n, am_sv, ai_sn, ai_sm, ai_sv_e, ai_sv_n, reduceIte, or_false, false_or, or_true, true_or, or_self, and_true, true_and, and_false, false_and, not_true_eq_false, not_false_eq_true, c0, a1]
          by_cases c1 : lt9 b s e 1 = wd w 1
          · simp (disch := omega) only [↓bnd_s, ↓bnd2_s, ↓bnd3_s, ↓bnd4_s, ↓bnd5_s, ↓bndR_l, ↓bndR_r, ↓bndX_l, ↓bndX_r, bnd_s, bnd2_s, bnd3_s, bnd4_s, bnd5_s, bndR_l, bndR_r, bndX_l, bndX_r, nq_lt, nq_le, nq_inj, nq_add, nq_mul, nq_sub, nq_div, nq_neg1, nq_clamp, nq_ne1, nq_le1, ne1_lt, n1_lt0, n1_lt, n1_ne, nz0, nz1, nz2, nz3, nz4, nz5, nz6, nz8, nz10, nz31, nz32, nz50, nz400, nz800, nz3200, nz20000, nlt_f, nlt_t, nle_f, nle_t, neq_f, neq_t, gi_si_e, gi_si_n, gp_sp_e, gp_sp_n, gr_sr_e, gr_sr_n, gi_sp, gi_sr, gp_si, gp_sr, gr_si, gr_sp, upd_e, upd_n, un_e, un_n, an_sn_e, an_sn_n, an_sm, an_sv, am_sn, am_sm_e, am_sm_n, am_sv, ai_sn, ai_sm, ai_sv_e, ai_sv_n, reduceIte, or_false, false_or, or_true, true_or, or_self, and_true, true_and, and_false, false_and, not_true_eq_false, not_false_eq_true, c1, a2]
            by_cases c2 : lt9 b s e 2 = wd w 2
            · simp (disch := omega) only [↓bnd_s, ↓bnd2_s, ↓bnd3_s, ↓bnd4_s, ↓bnd5_s, ↓bndR_l, ↓bndR_r, ↓bndX_l, ↓bndX_r, bnd_s, bnd2_s, bnd3_s, bnd4_s, bnd5_s, bndR_l, bndR_r, bndX_l, bndX_r, nq_lt, nq_le, nq_inj, nq_add, nq_mul, nq_sub, nq_div, nq_neg1, nq_clamp, nq_ne1, nq_le1, ne1_lt, n1_lt0, n1_lt, n1_ne, nz0, nz1, nz2, nz3, nz4, nz5, nz6, nz8, nz10, nz31, nz32, nz50, nz400, nz800, nz3200, nz20000, nlt_f, nlt_t, nle_f, nle_t, neq_f, neq_t, gi_si_e, gi_si_n, gp_sp_e, gp_sp_n, gr_sr_e, gr_sr_n, gi_sp, gi_sr, gp_si, gp_sr, gr_si, gr_sp, upd_e, upd_n, un_e, un_n, an_sn_e, an_sn_n, an_sm, an_sv, am_sn, am_sm_e, am_sm_n, am_sv, ai_sn, ai_sm, ai_sv_e, ai_sv_n, reduceIte, or_false, false_or, or_true, true_or, or_self, and_true, true_and, and_false, false_and, not_true_eq_false, not_false_eq_true, c2, a3]
              by_cases c3 : lt9 b s e 3 = wd w 3
              · simp (disch := omega) only [↓bnd_s, ↓bnd2_s, ↓bnd3_s, ↓bnd4_s, ↓bnd5_s, ↓bndR_l, ↓bndR_r, ↓bndX_l, ↓bndX_r, bnd_s, bnd2_s, bnd3_s, bnd4_s, bnd5_s, bndR_l, bndR_r, bndX_l, bndX_r, nq_lt, nq_le, nq_inj, nq_add, nq_mul, nq_sub, nq_div, nq_neg1, nq_clamp, nq_ne1, nq_le1, ne1_lt, n1_lt0, n1_lt, n1_ne, nz0, nz1, nz2, nz3, nz4, nz5, nz6, nz8, nz10, nz31, nz32, nz50, nz400, nz800, nz3200, nz20000, nlt_f, nlt_t, nle_f, nle_t, neq_f, neq_t, gi_si_e, gi_si_n, gp_sp_e, gp_sp_n, gr_sr_e, gr_sr_n, gi_sp, gi_sr, gp_si, gp_sr, gr_si, gr_sp, upd_e, upd_n, un_e, un_n, an_sn_e, an_sn_n, an_sm, an_sv, am_sn, am_sm_e, am_sm_n, am_sv, ai_sn, ai_sm, ai_sv_e, ai_sv_n, reduceIte, or_false, false_or, or_true, true_or, or_self, and_true, true_and, and_false, false_and, not_true_eq_false, not_false_eq_true, c3, a4]
                by_cases c4 : lt9 b s e 4 = wd w 4
                · refine absurd ⟨m1, by omega, fun k hk => ?_⟩ hm
                  match k, hk with
                  | 0, _ => exact c0
                  | 1, _ => exact c1
                  | 2, _ => exact c2
                  | 3, _ => exact c3
                  | 4, _ => exact c4
                · simp (disch := omega) only [↓bnd_s, ↓bnd2_s, ↓bnd3_s, ↓bnd4_s, ↓bnd5_s, ↓bndR_l, ↓bndR_r, ↓bndX_l, ↓bndX_r, bnd_s, bnd2_s, bnd3_s, bnd4_s, bnd5_s, bndR_l, bndR_r, bndX_l, bndX_r, nq_lt, nq_le, nq_inj, nq_add, nq_mul, nq_sub, nq_div, nq_neg1, nq_clamp, nq_ne1, nq_le1, ne1_lt, n1_lt0, n1_lt, n1_ne, nz0, nz1, nz2, nz3, nz4, nz5, nz6, nz8, nz10, nz31, nz32, nz50, nz400, nz800, nz3200, nz20000, nlt_f, nlt_t, nle_f, nle_t, neq_f, neq_t, gi_si_e, gi_si_n, gp_sp_e, gp_sp_n, gr_sr_e, gr_sr_n, gi_sp, gi_sr, gp_si, gp_sr, gr_si, gr_sp, upd_e, upd_n, un_e, un_n, an_sn_e, an_sn_n, an_sm, an_sv, am_sn, am_sm_e, am_sm_n, am_sv, ai_sn, ai_sm, ai_sv_e, ai_sv_n, reduceIte, or_false, false_or, or_true, true_or, or_self, and_true, true_and, and_false, false_and, not_true_eq_false, not_false_eq_true, c4]
              · simp (disch := omega) only [↓bnd_s, ↓bnd2_s, ↓bnd3_s, ↓bnd4_s, ↓bnd5_s, ↓bndR_l, ↓bndR_r, ↓bndX_l, ↓bndX_r, bnd_s, bnd2_s, bnd3_s, bnd4_s, bnd5_s, bndR_l, bndR_r, bndX_l, bndX_r, nq_lt, nq_le, nq_inj, nq_add, nq_mul, nq_sub, nq_div, nq_neg1, nq_clamp, nq_ne1, nq_le1, ne1_lt, n1_lt0, n1_lt, n1_ne, nz0, nz1, nz2, nz3, nz4, nz5, nz6, nz8, nz10, nz31, nz32, nz50, nz400, nz800, nz3200, nz20000, nlt_f, nlt_t, nle_f, nle_t, neq_f, neq_t, gi_si_e, gi_si_n, gp_sp_e, gp_sp_n, gr_sr_e, gr_sr_n, gi_sp, gi_sr, gp_si, gp_sr, gr_si, gr_sp, upd_e, upd_n, un_e, un_n, an_sn_e, an_sn_n, an_sm, an_sv, am_sn, am_sm_e, am_sm_n, am_sv, ai_sn, ai_sm, ai_sv_e, ai_sv_n, reduceIte, or_false, false_or, or_true, true_or, or_self, and_true, true_and, and_false, false_and, not_true_eq_false, not_false_eq_true, c3]
            · simp (disch := omega) only [↓bnd_s, ↓bnd2_s, ↓bnd3_s, ↓bnd4_s, ↓bnd5_s, ↓bndR_l, ↓bndR_r, ↓bndX_l, ↓bndX_r, bnd_s, bnd2_s, bnd3_s, bnd4_s, bnd5_s, bndR_l, bndR_r, bndX_l, bndX_r, nq_lt, nq_le, nq_inj, nq_add, nq_mul, nq_sub, nq_div, nq_neg1, nq_clamp, nq_ne1, nq_le1, ne1_lt, n1_lt0, n1_lt, n1_ne, nz0, nz1, nz2, nz3, nz4, nz5, nz6, nz8, nz10, nz31, nz32, nz50, nz400, nz800, nz3200, nz20000, nlt_f, nlt_t, nle_f, nle_t, neq_f, neq_t, gi_si_e, gi_si_n, gp_sp_e, gp_sp_n, gr_sr_e, gr_sr_n, gi_sp, gi_sr, gp_si, gp_sr, gr_si, gr_sp, upd_e, upd_n, un_e, un_n, an_sn_e, an_sn_n, an_sm, an_sv, am_sn, am_sm_e, am_sm_n, am_sv, ai_sn, ai_sm, ai_sv_e, ai_sv_n, reduceIte, or_false, false_or, or_true, true_or, or_self, and_true, true_and, and_false, false_and, not_true_eq_false, not_false_eq_true, c2]
          · simp (disch := omega) only [↓bnd_s, ↓bnd2_s, ↓bnd3_s, ↓bnd4_s, ↓bnd5_s, ↓bndR_l, ↓bndR_r, ↓bndX_l, ↓bndX_r, bnd_s, bnd2_s, bnd3_s, bnd4_s, bnd5_s, bndR_l, bndR_r, bndX_l, bndX_r, nq_lt, nq_le, nq_inj, nq_add, nq_mul, nq_sub, nq_div, nq_neg1, nq_clamp, nq_ne1, nq_le1, ne1_lt, n1_lt0, n1_lt, n1_ne, nz0, nz1, nz2, nz3, nz4, nz5, nz6, nz8, nz10, nz31, nz32, nz50, nz400, nz800, nz3200, nz20000, nlt_f, nlt_t, nle_f, nle_t, neq_f, neq_t, gi_si_e, gi_si_n, gp_sp_e, gp_sp_n, gr_sr_e, gr_sr_n, gi_sp, gi_sr, gp_si, gp_sr, gr_si, gr_sp, upd_e, upd_n, un_e, un_n, an_sn_e, an_sn_n, an_sm, an_sv, am_sn, am_sm_e, am_sm_n, am_sv, ai_sn, ai_sm, ai_sv_e, ai_sv_n, reduceIte, or_false, false_or, or_true, true_or, or_self, and_true, true_and, and_false, false_and, not_true_eq_false, not_false_eq_true, c1]
        · simp (disch := omega) only [↓bnd_s, ↓bnd2_s, ↓bnd3_s, ↓bnd4_s, ↓bnd5_s, ↓bndR_l, ↓bndR_r, ↓bndX_l, ↓bndX_r, bnd_s, bnd2_s, bnd3_s, bnd4_s, bnd5_s, bndR_l, bndR_r, bndX_l, bndX_r, nq_lt, nq_le, nq_inj, nq_add, nq_mul, nq_sub, nq_div, nq_neg1, nq_clamp, nq_ne1, nq_le1, ne1_lt, n1_lt0, n1_lt, n1_ne, nz0, nz1, nz2, nz3, nz4, nz5, nz6, nz8, nz10, nz31, nz32, nz50, nz400, nz800, nz3200, nz20000, nlt_f, nlt_t, nle_f, nle_t, neq_f, neq_t, gi_si_e, gi_si_n, gp_sp_e, gp_sp_n, gr_sr_e, gr_sr_n, gi_sp, gi_sr, gp_si, gp_sr, gr_si, gr_sp, upd_e, upd_n, un_e, un_n, an_sn_e, an_sn_n, an_sm, an_sv, am_sn, am_sm_e, am_sm_n, am_sv, ai_sn, ai_sm, ai_sv_e, ai_sv_n, reduceIte, or_false, false_or, or_true, true_or, or_self, and_true, true_and, and_false, false_and, not_true_eq_false, not_false_eq_true, c0]
    · simp (disch := omega) only [↓bnd_s, ↓bnd2_s, ↓bnd3_s, ↓bnd4_s, ↓bnd5_s, ↓bndR_l, ↓bndR_r, ↓bndX_l, ↓bndX_r, bnd_s, bnd2_s, bnd3_s, bnd4_s, bnd5_s, bndR_l, bndR_r, bndX_l, bndX_r, nq_lt, nq_le, nq_inj, nq_add, nq_mul, nq_sub, nq_div, nq_neg1, nq_clamp, nq_ne1, nq_le1, ne1_lt, n1_lt0, n1_lt, n1_ne, nz0, nz1, nz2, nz3, nz4, nz5, nz6, nz8, nz10, nz31, nz32, nz50, nz400, nz800, nz3200, nz20000, nlt_f, nlt_t, nle_f, nle_t, neq_f, neq_t, gi_si_e, gi_si_n, gp_sp_e, gp_sp_n, gr_sr_e, gr_sr_n, gi_sp, gi_sr, gp_si, gp_sr, gr_si, gr_sp, upd_e, upd_n, un_e, un_n, an_sn_e, an_sn_n, an_sm, an_sv, am_sn, am_sm_e, am_sm_n, am_sv, ai_sn, ai_sm, ai_sv_e, ai_sv_n, reduceIte, or_false, false_or, or_true, true_or, or_self, and_true, true_and, and_false, false_and, not_true_eq_false, not_false_eq_true, m1]
theorem sign_iff (h : TX b L σ τ) {s e : Nat} (t : TOK b L s e σ τ) : (Mt b s e 6 ↔ gi τ 14 = nI 3) ∧ (Mt b s e 7 ↔ gi τ 14 = nI 4) := by
  have hse := t.se
  have key : ∀ w c : Nat, wl w = 1 → (∀ B, tcd B = c ↔ B = wd w 0) → al (wd w 0) = 2 → c < 6 → (Mt b s e w ↔ gi τ 14 = nI c) := by
    intro w c hw1 hc ha h6
    have h16 := (tcd_r (b s)).2
    constructor
    · rintro ⟨m1, m2⟩
      have m3 := m2 0 (by omega)
      rw [Nat.add_zero] at m3
      rcases t.2.2.2.2.2.2 with ⟨q1, q2⟩ | ⟨q1, q2, q3, -⟩
      · have := t.eL; omega
      · rw [q3, (hc (b s)).mpr m3]
    · intro m
      rcases t.2.2.2.2.2.2 with ⟨q1, q2⟩ | ⟨q1, q2, q3, -, -, q4⟩
      · rw [q2, nq_inj (by omega) (by omega)] at m; omega
      · rw [q3, nq_inj (by omega) (by omega)] at m
        have m3 := (hc (b s)).mp m
        have := q4 (by rw [m3, ha]; decide) (by rw [m3, ha]; decide)
        refine ⟨by omega, fun k hk => ?_⟩
        rw [show k = 0 by omega, Nat.add_zero]; exact m3
  exact ⟨key 6 3 rfl (fun B => tcd_e3) (by decide +kernel) (by omega), key 7 4 rfl (fun B => tcd_e4) (by decide +kernel) (by omega)⟩
end WD
