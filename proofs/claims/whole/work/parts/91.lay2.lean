def sN (f : Nat → Nat) : Nat → Nat
  | 0 => 0
  | k + 1 => sN f k + f k
theorem sN_s (f : Nat → Nat) (k : Nat) : sN f (k + 1) = sN f k + f k := rfl
theorem sN_le (f : Nat → Nat) : ∀ {m : Nat}, (∀ k, k < m → f k ≤ 400) → sN f m ≤ 400 * m
  | 0, _ => Nat.le_refl _
  | m + 1, h => by
    have h1 := sN_le f (m := m) fun k hk => h k (by omega)
    have h2 := h m (by omega)
    rw [sN_s]; omega
theorem sN_mono (f : Nat → Nat) {i m : Nat} (h : i ≤ m) : sN f i ≤ sN f m := by
  induction m with
  | zero => rw [show i = 0 by omega]; exact Nat.le_refl _
  | succ m ih =>
    by_cases e : i = m + 1
    · rw [e]; exact Nat.le_refl _
    · have := ih (by omega)
      rw [sN_s]; omega
section LZ
variable {σ τ : St}
theorem cardsC_L {f : Nat → Nat} {m : Nat} (hm : gi σ 98 = nI m) (hm5 : m ≤ 50) (hf : ∀ k, k < m → gi σ (8 * (64 + k) + 1) = nI (f k)) : ∀ (d : Nat) {fu i : Nat}, m - i = d → i ≤ m → d < fu → f_X5_cardsOfAllRuns_L4 σ fu (nI (sN f i)) (nI i) = some (nI (sN f m)) := by
  intro d
  induction d with
  | zero =>
    intro fu i hd hi hfu
    obtain ⟨fu, rfl⟩ : ∃ f, fu = f + 1 := ⟨fu - 1, by omega⟩
    have e : i = m := by omega
    subst e
    unfold f_X5_cardsOfAllRuns_L4; simp (disch := omega) only [↓bnd_s, ↓bnd2_s, ↓bnd3_s, ↓bnd4_s, ↓bnd5_s, ↓bndR_l, ↓bndR_r, ↓bndX_l, ↓bndX_r, bnd_s, bnd2_s, bnd3_s, bnd4_s, bnd5_s, bndR_l, bndR_r, bndX_l, bndX_r, nq_lt, nq_le, nq_inj, nq_add, nq_mul, nq_sub, nq_div, nq_neg1, nq_clamp, nq_ne1, nq_le1, ne1_lt, n1_lt0, n1_lt, n1_ne, nz0, nz1, nz2, nz3, nz4, nz5, nz6, nz8, nz10, nz31, nz32, nz50, nz400, nz800, nz3200, nz20000, nlt_f, nlt_t, nle_f, nle_t, neq_f, neq_t, gi_si_e, gi_si_n, gp_sp_e, gp_sp_n, gr_sr_e, gr_sr_n, gi_sp, gi_sr, gp_si, gp_sr, gr_si, gr_sp, upd_e, upd_n, un_e, un_n, an_sn_e, an_sn_n, an_sm, an_sv, am_sn, am_sm_e, am_sm_n, am_sv, ai_sn, ai_sm, ai_sv_e, ai_sv_n, reduceIte, or_false, false_or, or_true, true_or, or_self, and_true, true_and, and_false, false_and, not_true_eq_false, not_false_eq_true, hm]
  | succ d ih =>
    intro fu i hd hi hfu
    obtain ⟨fu, rfl⟩ : ∃ f, fu = f + 1 := ⟨fu - 1, by omega⟩
    have := ih (fu := fu) (i := i + 1) (by omega) (by omega) (by omega)
    unfold f_X5_cardsOfAllRuns_L4; simp (disch := omega) only [↓bnd_s, ↓bnd2_s, ↓bnd3_s, ↓bnd4_s, ↓bnd5_s, ↓bndR_l, ↓bndR_r, ↓bndX_l, ↓bndX_r, bnd_s, bnd2_s, bnd3_s, bnd4_s, bnd5_s, bndR_l, bndR_r, bndX_l, bndX_r, nq_lt, nq_le, nq_inj, nq_add, nq_mul, nq_sub, nq_div, nq_neg1, nq_clamp, nq_ne1, nq_le1, ne1_lt, n1_lt0, n1_lt, n1_ne, nz0, nz1, nz2, nz3, nz4, nz5, nz6, nz8, nz10, nz31, nz32, nz50, nz400, nz800, nz3200, nz20000, nlt_f, nlt_t, nle_f, nle_t, neq_f, neq_t, gi_si_e, gi_si_n, gp_sp_e, gp_sp_n, gr_sr_e, gr_sr_n, gi_sp, gi_sr, gp_si, gp_sr, gr_si, gr_sp, upd_e, upd_n, un_e, un_n, an_sn_e, an_sn_n, an_sm, an_sv, am_sn, am_sm_e, am_sm_n, am_sv, ai_sn, ai_sm, ai_sv_e, ai_sv_n, reduceIte, or_false, false_or, or_true, true_or, or_self, and_true, true_and, and_false, false_and, not_true_eq_false, not_false_eq_true, hm, hf i (by omega)]
    exact this
theorem cardsM_L {f : Nat → Nat} {m : Nat} (hm : gi τ 24 = nI m) (hm5 : m ≤ 50) (hf : ∀ k, k < m → gr τ 20 k = nI (f k)) : ∀ (d : Nat) {fu i : Nat}, m - i = d → i ≤ m → d < fu → f_X11_lay_L32 τ fu (nI (sN f i)) (nI i) = some (nI (sN f m)) := by
  intro d
  induction d with
  | zero =>
    intro fu i hd hi hfu
    obtain ⟨fu, rfl⟩ : ∃ f, fu = f + 1 := ⟨fu - 1, by omega⟩
    have e : i = m := by omega
    subst e
    unfold f_X11_lay_L32; simp (disch := omega) only [↓bnd_s, ↓bnd2_s, ↓bnd3_s, ↓bnd4_s, ↓bnd5_s, ↓bndR_l, ↓bndR_r, ↓bndX_l, ↓bndX_r, bnd_s, bnd2_s, bnd3_s, bnd4_s, bnd5_s, bndR_l, bndR_r, bndX_l, bndX_r, nq_lt, nq_le, nq_inj, nq_add, nq_mul, nq_sub, nq_div, nq_neg1, nq_clamp, nq_ne1, nq_le1, ne1_lt, n1_lt0, n1_lt, n1_ne, nz0, nz1, nz2, nz3, nz4, nz5, nz6, nz8, nz10, nz31, nz32, nz50, nz400, nz800, nz3200, nz20000, nlt_f, nlt_t, nle_f, nle_t, neq_f, neq_t, gi_si_e, gi_si_n, gp_sp_e, gp_sp_n, gr_sr_e, gr_sr_n, gi_sp, gi_sr, gp_si, gp_sr, gr_si, gr_sp, upd_e, upd_n, un_e, un_n, an_sn_e, an_sn_n, an_sm, an_sv, am_sn, am_sm_e, am_sm_n, am_sv, ai_sn, ai_sm, ai_sv_e, ai_sv_n, reduceIte, or_false, false_or, or_true, true_or, or_self, and_true, true_and, and_false, false_and, not_true_eq_false, not_false_eq_true, hm]
  | succ d ih =>
    intro fu i hd hi hfu
    obtain ⟨fu, rfl⟩ : ∃ f, fu = f + 1 := ⟨fu - 1, by omega⟩
    have := ih (fu := fu) (i := i + 1) (by omega) (by omega) (by omega)
    unfold f_X11_lay_L32; simp (disch := omega) only [↓bnd_s, ↓bnd2_s, ↓bnd3_s, ↓bnd4_s, ↓bnd5_s, ↓bndR_l, ↓bndR_r, ↓bndX_l, ↓bndX_r, bnd_s, bnd2_s, bnd3_s, bnd4_s, bnd5_s, bndR_l, bndR_r, bndX_l, bndX_r, nq_lt, nq_le, nq_inj, nq_add, nq_mul, nq_sub, nq_div, nq_neg1, nq_clamp, nq_ne1, nq_le1, ne1_lt, n1_lt0, n1_lt, n1_ne, nz0, nz1, nz2, nz3, nz4, nz5, nz6, nz8, nz10, nz31, nz32, nz50, nz400, nz800, nz3200, nz20000, nlt_f, nlt_t, nle_f, nle_t, neq_f, neq_t, gi_si_e, gi_si_n, gp_sp_e, gp_sp_n, gr_sr_e, gr_sr_n, gi_sp, gi_sr, gp_si, gp_sr, gr_si, gr_sp, upd_e, upd_n, un_e, un_n, an_sn_e, an_sn_n, an_sm, an_sv, am_sn, am_sm_e, am_sm_n, am_sv, ai_sn, ai_sm, ai_sv_e, ai_sv_n, reduceIte, or_false, false_or, or_true, true_or, or_self, and_true, true_and, and_false, false_and, not_true_eq_false, not_false_eq_true, hm, hf i (by omega)]
    exact this
theorem cardsX_L {m : Nat} (hm : gi τ 24 = nI m) (hm5 : m ≤ 50) : ∀ (d : Nat) {fu i : Nat} {x : Int32}, m - i = d → i ≤ m → d < fu → ∃ v, f_X11_lay_L32 τ fu x (nI i) = some v := by
  intro d
  induction d with
  | zero =>
    intro fu i x hd hi hfu
    obtain ⟨fu, rfl⟩ : ∃ f, fu = f + 1 := ⟨fu - 1, by omega⟩
    exact ⟨x, by unfold f_X11_lay_L32; simp (disch := omega) only [↓bnd_s, ↓bnd2_s, ↓bnd3_s, ↓bnd4_s, ↓bnd5_s, ↓bndR_l, ↓bndR_r, ↓bndX_l, ↓bndX_r, bnd_s, bnd2_s, bnd3_s, bnd4_s, bnd5_s, bndR_l, bndR_r, bndX_l, bndX_r, nq_lt, nq_le, nq_inj, nq_add, nq_mul, nq_sub, nq_div, nq_neg1, nq_clamp, nq_ne1, nq_le1, ne1_lt, n1_lt0, n1_lt, n1_ne, nz0, nz1, nz2, nz3, nz4, nz5, nz6, nz8, nz10, nz31, nz32, nz50, nz400, nz800, nz3200, nz20000, nlt_f, nlt_t, nle_f, nle_t, neq_f, neq_t, gi_si_e, gi_si_n, gp_sp_e, gp_sp_n, gr_sr_e, gr_sr_n, gi_sp, gi_sr, gp_si, gp_sr, gr_si, gr_sp, upd_e, upd_n, un_e, un_n, an_sn_e, an_sn_n, an_sm, an_sv, am_sn, am_sm_e, am_sm_n, am_sv, ai_sn, ai_sm, ai_sv_e, ai_sv_n, reduceIte, or_false, false_or, or_true, true_or, or_self, and_true, true_and, and_false, false_and, not_true_eq_false, not_false_eq_true, hm]⟩
  | succ d ih =>
    intro fu i x hd hi hfu
    obtain ⟨fu, rfl⟩ : ∃ f, fu = f + 1 := ⟨fu - 1, by omega⟩
    obtain ⟨v, hv⟩ := ih (fu := fu) (i := i + 1) (x := x + gr τ 20 i) (by omega) (by omega) (by omega)
    exact ⟨v, by unfold f_X11_lay_L32; simp (disch := omega) only [↓bnd_s, ↓bnd2_s, ↓bnd3_s, ↓bnd4_s, ↓bnd5_s, ↓bndR_l, ↓bndR_r, ↓bndX_l, ↓bndX_r, bnd_s, bnd2_s, bnd3_s, bnd4_s, bnd5_s, bndR_l, bndR_r, bndX_l, bndX_r, nq_lt, nq_le, nq_inj, nq_add, nq_mul, nq_sub, nq_div, nq_neg1, nq_clamp, nq_ne1, nq_le1, ne1_lt, n1_lt0, n1_lt, n1_ne, nz0, nz1, nz2, nz3, nz4, nz5, nz6, nz8, nz10, nz31, nz32, nz50, nz400, nz800, nz3200, nz20000, nlt_f, nlt_t, nle_f, nle_t, neq_f, neq_t, gi_si_e, gi_si_n, gp_sp_e, gp_sp_n, gr_sr_e, gr_sr_n, gi_sp, gi_sr, gp_si, gp_sr, gr_si, gr_sp, upd_e, upd_n, un_e, un_n, an_sn_e, an_sn_n, an_sm, an_sv, am_sn, am_sm_e, am_sm_n, am_sv, ai_sn, ai_sm, ai_sv_e, ai_sv_n, reduceIte, or_false, false_or, or_true, true_or, or_self, and_true, true_and, and_false, false_and, not_true_eq_false, not_false_eq_true, hm]; exact hv⟩
theorem layAll_L {r m : Nat} {f : Nat → Nat} (hr : r < 4) (hm5 : m ≤ 50) (hf4 : ∀ k, k < m → f k ≤ 400) : ∀ (d : Nat) {fu i : Nat} {a : AS} {σ τ : St}, REL a σ τ → gi σ 98 = nI m → gi τ 24 = nI m → (∀ k, k < m → RunR k σ τ ∧ gi σ (8 * (64 + k) + 1) = nI (f k) ∧ gr τ 20 k = nI (f k)) → m - i = d → i ≤ m → an a (10 + r) + (sN f m - sN f i) ≤ 800 → an a 0 + (sN f m - sN f i) ≤ 20000 → d < fu →
    ∃ (σ' τ' : St) (a' : AS), f_X10_lay_L48 (16 + r) fu (nI i) σ = some σ' ∧ f_X11_lay_L96 (nI r) fu (nI i) τ = some τ' ∧ REL a' σ' τ' := by
  intro d
  induction d with
  | zero =>
    intro fu i a σ τ h h98 h24 hk hd hi h8 h2 hfu
    obtain ⟨fu, rfl⟩ : ∃ f, fu = f + 1 := ⟨fu - 1, by omega⟩
    refine ⟨σ, τ, a, ?_, ?_, h⟩
    · unfold f_X10_lay_L48; simp (disch := omega) only [↓bnd_s, ↓bnd2_s, ↓bnd3_s, ↓bnd4_s, ↓bnd5_s, ↓bndR_l, ↓bndR_r, ↓bndX_l, ↓bndX_r, bnd_s, bnd2_s, bnd3_s, bnd4_s, bnd5_s, bndR_l, bndR_r, bndX_l, bndX_r, nq_lt, nq_le, nq_inj, nq_add, nq_mul, nq_sub, nq_div, nq_neg1, nq_clamp, nq_ne1, nq_le1, ne1_lt, n1_lt0, n1_lt, n1_ne, nz0, nz1, nz2, nz3, nz4, nz5, nz6, nz8, nz10, nz31, nz32, nz50, nz400, nz800, nz3200, nz20000, nlt_f, nlt_t, nle_f, nle_t, neq_f, neq_t, gi_si_e, gi_si_n, gp_sp_e, gp_sp_n, gr_sr_e, gr_sr_n, gi_sp, gi_sr, gp_si, gp_sr, gr_si, gr_sp, upd_e, upd_n, un_e, un_n, an_sn_e, an_sn_n, an_sm, an_sv, am_sn, am_sm_e, am_sm_n, am_sv, ai_sn, ai_sm, ai_sv_e, ai_sv_n, reduceIte, or_false, false_or, or_true, true_or, or_self, and_true, true_and, and_false, false_and, not_true_eq_false, not_false_eq_true, h98]
    · unfold f_X11_lay_L96; simp (disch := omega) only [↓bnd_s, ↓bnd2_s, ↓bnd3_s, ↓bnd4_s, ↓bnd5_s, ↓bndR_l, ↓bndR_r, ↓bndX_l, ↓bndX_r, bnd_s, bnd2_s, bnd3_s, bnd4_s, bnd5_s, bndR_l, bndR_r, bndX_l, bndX_r, nq_lt, nq_le, nq_inj, nq_add, nq_mul, nq_sub, nq_div, nq_neg1, nq_clamp, nq_ne1, nq_le1, ne1_lt, n1_lt0, n1_lt, n1_ne, nz0, nz1, nz2, nz3, nz4, nz5, nz6, nz8, nz10, nz31, nz32, nz50, nz400, nz800, nz3200, nz20000, nlt_f, nlt_t, nle_f, nle_t, neq_f, neq_t, gi_si_e, gi_si_n, gp_sp_e, gp_sp_n, gr_sr_e, gr_sr_n, gi_sp, gi_sr, gp_si, gp_sr, gr_si, gr_sp, upd_e, upd_n, un_e, un_n, an_sn_e, an_sn_n, an_sm, an_sv, am_sn, am_sm_e, am_sm_n, am_sv, ai_sn, ai_sm, ai_sv_e, ai_sv_n, reduceIte, or_false, false_or, or_true, true_or, or_self, and_true, true_and, and_false, false_and, not_true_eq_false, not_false_eq_true, h24]
  | succ d ih =>
    intro fu i a σ τ h h98 h24 hk hd hi h8 h2 hfu
    obtain ⟨fu, rfl⟩ : ∃ f, fu = f + 1 := ⟨fu - 1, by omega⟩
    obtain ⟨k1, k2, k3⟩ := hk i (by omega)
    have hs := sN_s f i
    have hmo := sN_mono f (show i + 1 ≤ m by omega)
    obtain ⟨σ1, τ1, a1, g1, g2, g3, g4, g5, g6, g7⟩ := layRun_L hr (show i < 80 by omega) (hf4 i (by omega)) _ (fu := FU) (gu := FU) (k := 0) h k1 k2 k3 rfl (by omega) (by omega) (by omega) (by have := hf4 i (by omega); unfold FU; omega) (by have := hf4 i (by omega); unfold FU; omega)
    obtain ⟨σ', τ', a', e1, e2, e3⟩ := ih (fu := fu) (i := i + 1) g3 (g4.2.1.trans h98) (g5.2.trans h24) (fun k hkm => by
      obtain ⟨q1, q2, q3⟩ := hk k hkm
      exact ⟨q1.k g4 g5, by rw [g4.1 _ (by omega)]; exact q2, by rw [g5.1 20 (by omega) (by omega)]; exact q3⟩) (by omega) (by omega) (by omega) (by omega) (by omega)
    refine ⟨σ', τ', a', ?_, ?_, e3⟩
    · unfold f_X10_lay_L48 f_X10_layRun; simp (disch := omega) only [↓bnd_s, ↓bnd2_s, ↓bnd3_s, ↓bnd4_s, ↓bnd5_s, ↓bndR_l, ↓bndR_r, ↓bndX_l, ↓bndX_r, bnd_s, bnd2_s, bnd3_s, bnd4_s, bnd5_s, bndR_l, bndR_r, bndX_l, bndX_r, nq_lt, nq_le, nq_inj, nq_add, nq_mul, nq_sub, nq_div, nq_neg1, nq_clamp, nq_ne1, nq_le1, ne1_lt, n1_lt0, n1_lt, n1_ne, nz0, nz1, nz2, nz3, nz4, nz5, nz6, nz8, nz10, nz31, nz32, nz50, nz400, nz800, nz3200, nz20000, nlt_f, nlt_t, nle_f, nle_t, neq_f, neq_t, gi_si_e, gi_si_n, gp_sp_e, gp_sp_n, gr_sr_e, gr_sr_n, gi_sp, gi_sr, gp_si, gp_sr, gr_si, gr_sp, upd_e, upd_n, un_e, un_n, an_sn_e, an_sn_n, an_sm, an_sv, am_sn, am_sm_e, am_sm_n, am_sv, ai_sn, ai_sm, ai_sv_e, ai_sv_n, reduceIte, or_false, false_or, or_true, true_or, or_self, and_true, true_and, and_false, false_and, not_true_eq_false, not_false_eq_true, h98, g1]; exact e1
    · unfold f_X11_lay_L96; simp (disch := omega) only [↓bnd_s, ↓bnd2_s, ↓bnd3_s, ↓bnd4_s, ↓bnd5_s, ↓bndR_l, ↓bndR_r, ↓bndX_l, ↓bndX_r, bnd_s, bnd2_s, bnd3_s, bnd4_s, bnd5_s, bndR_l, bndR_r, bndX_l, bndX_r, nq_lt, nq_le, nq_inj, nq_add, nq_mul, nq_sub, nq_div, nq_neg1, nq_clamp, nq_ne1, nq_le1, ne1_lt, n1_lt0, n1_lt, n1_ne, nz0, nz1, nz2, nz3, nz4, nz5, nz6, nz8, nz10, nz31, nz32, nz50, nz400, nz800, nz3200, nz20000, nlt_f, nlt_t, nle_f, nle_t, neq_f, neq_t, gi_si_e, gi_si_n, gp_sp_e, gp_sp_n, gr_sr_e, gr_sr_n, gi_sp, gi_sr, gp_si, gp_sr, gr_si, gr_sp, upd_e, upd_n, un_e, un_n, an_sn_e, an_sn_n, an_sm, an_sv, am_sn, am_sm_e, am_sm_n, am_sv, ai_sn, ai_sm, ai_sv_e, ai_sv_n, reduceIte, or_false, false_or, or_true, true_or, or_self, and_true, true_and, and_false, false_and, not_true_eq_false, not_false_eq_true, h24, g2]; exact e2
theorem P_lay {a : AS} (h : REL a σ τ) (x : Int32) : AG [zI, zS] (f_X10_lay x σ) (f_X11_lay x τ) := by
  rcases row_cases x with ⟨r, hr, rfl⟩ | ⟨hb, hb2, -⟩
  · rcases reads_lock h with ⟨σ1, τ1, m, q1, q2, q3, q4, q5, q6, q7⟩ | ⟨σ1, τ1, y, q1, q2, q3, q4, m, q5, q6⟩
    · have hn := q7.n hr
      have hmm := q7.m
      have q2' : f_X5_readText σ = some (-1, σ1) := q2
      have q3' : f_X11_reads τ = some (-1, τ1) := q3
      have hf : ∀ k, k < m → ∃ c, 1 ≤ c ∧ c ≤ 400 ∧ gi σ1 (8 * (64 + k) + 1) = nI c ∧ gr τ1 20 k = nI c := fun k hk => (q6 k hk).2.2.1
      obtain ⟨f, hf2⟩ : ∃ f : Nat → Nat, ∀ k, k < m → f k ≤ 400 ∧ gi σ1 (8 * (64 + k) + 1) = nI (f k) ∧ gr τ1 20 k = nI (f k) := by
        refine ⟨fun k => (gi σ1 (8 * (64 + k) + 1)).toNatClampNeg, fun k hk => ?_⟩
        obtain ⟨c, c1, c2, c3, c4⟩ := hf k hk
        show (gi σ1 (8 * (64 + k) + 1)).toNatClampNeg ≤ 400 ∧ _ = nI ((gi σ1 (8 * (64 + k) + 1)).toNatClampNeg) ∧ _ = nI ((gi σ1 (8 * (64 + k) + 1)).toNatClampNeg)
        rw [c3, nq_clamp (by omega)]
        exact ⟨c2, rfl, c4⟩
      have hS := sN_le f (m := m) fun k hk => (hf2 k hk).1
      have s1 := cardsC_L q4 q1 (fun k hk => (hf2 k hk).2.1) _ (fu := FU) (i := 0) rfl (by omega) (by unfold FU; omega)
      have s2 := cardsM_L q5 q1 (fun k hk => (hf2 k hk).2.2) _ (fu := FU) (i := 0) rfl (by omega) (by unfold FU; omega)
      rw [show sN f 0 = 0 from rfl] at s1 s2
      have c1 : f_X5_cardsOfAllRuns σ1 = some (nI (sN f m)) := by unfold f_X5_cardsOfAllRuns; rw [nz0, s1]; rfl
      by_cases e8 : an a (10 + r) + sN f m ≤ 800
      · by_cases e2 : an a 0 + sN f m ≤ 20000
        · obtain ⟨σ', τ', a', g1, g2, g3⟩ := layAll_L hr q1 (fun k hk => (hf2 k hk).1) _ (fu := FU) (i := 0) q7 q4 q5 (fun k hk => ⟨q6 k hk, (hf2 k hk).2⟩) rfl (by omega) (by rw [show sN f 0 = 0 from rfl]; omega) (by rw [show sN f 0 = 0 from rfl]; omega) (by unfold FU; omega)
          refine AG.ok (nI (sN f m)) ?_ ?_ g3
          · unfold f_X10_lay; rw [rowAt_ok hr, bndX_r, q2', bnd2_s, if_pos rfl, c1, bnd_s, needRoom_eq (q7.cn hr) hn (by omega), if_pos e8, bndX_r, needCards_eq q7.cm hmm (by omega), if_pos e2, bndX_r, nz0, g1]; rfl
          · unfold f_X11_lay; rw [isRow_ok hr, bnd_s, if_neg n10, q3', bnd2_s, if_pos rfl, bnd_s, nz0, s2, bnd_s]
            simp (disch := omega) only [↓bnd_s, ↓bnd2_s, ↓bnd3_s, ↓bnd4_s, ↓bnd5_s, ↓bndR_l, ↓bndR_r, ↓bndX_l, ↓bndX_r, bnd_s, bnd2_s, bnd3_s, bnd4_s, bnd5_s, bndR_l, bndR_r, bndX_l, bndX_r, nq_lt, nq_le, nq_inj, nq_add, nq_mul, nq_sub, nq_div, nq_neg1, nq_clamp, nq_ne1, nq_le1, ne1_lt, n1_lt0, n1_lt, n1_ne, nz0, nz1, nz2, nz3, nz4, nz5, nz6, nz8, nz10, nz31, nz32, nz50, nz400, nz800, nz3200, nz20000, nlt_f, nlt_t, nle_f, nle_t, neq_f, neq_t, gi_si_e, gi_si_n, gp_sp_e, gp_sp_n, gr_sr_e, gr_sr_n, gi_sp, gi_sr, gp_si, gp_sr, gr_si, gr_sp, upd_e, upd_n, un_e, un_n, an_sn_e, an_sn_n, an_sm, an_sv, am_sn, am_sm_e, am_sm_n, am_sv, ai_sn, ai_sm, ai_sv_e, ai_sv_n, reduceIte, or_false, false_or, or_true, true_or, or_self, and_true, true_and, and_false, false_and, not_true_eq_false, not_false_eq_true, q7.mn hr, q7.mm]
            rw [g2]; rfl
        · refine AG.no (v := 0) 1 rfl ?_ ?_ q7
          · unfold f_X10_lay; rw [rowAt_ok hr, bndX_r, q2', bnd2_s, if_pos rfl, c1, bnd_s, needRoom_eq (q7.cn hr) hn (by omega), if_pos e8, bndX_r, needCards_eq q7.cm hmm (by omega), if_neg e2, bndX_l]
          · unfold f_X11_lay; rw [isRow_ok hr, bnd_s, if_neg n10, q3', bnd2_s, if_pos rfl, bnd_s, nz0, s2, bnd_s]
            simp (disch := omega) only [↓bnd_s, ↓bnd2_s, ↓bnd3_s, ↓bnd4_s, ↓bnd5_s, ↓bndR_l, ↓bndR_r, ↓bndX_l, ↓bndX_r, bnd_s, bnd2_s, bnd3_s, bnd4_s, bnd5_s, bndR_l, bndR_r, bndX_l, bndX_r, nq_lt, nq_le, nq_inj, nq_add, nq_mul, nq_sub, nq_div, nq_neg1, nq_clamp, nq_ne1, nq_le1, ne1_lt, n1_lt0, n1_lt, n1_ne, nz0, nz1, nz2, nz3, nz4, nz5, nz6, nz8, nz10, nz31, nz32, nz50, nz400, nz800, nz3200, nz20000, nlt_f, nlt_t, nle_f, nle_t, neq_f, neq_t, gi_si_e, gi_si_n, gp_sp_e, gp_sp_n, gr_sr_e, gr_sr_n, gi_sp, gi_sr, gp_si, gp_sr, gr_si, gr_sp, upd_e, upd_n, un_e, un_n, an_sn_e, an_sn_n, an_sm, an_sv, am_sn, am_sm_e, am_sm_n, am_sv, ai_sn, ai_sm, ai_sv_e, ai_sv_n, reduceIte, or_false, false_or, or_true, true_or, or_self, and_true, true_and, and_false, false_and, not_true_eq_false, not_false_eq_true, q7.mn hr, q7.mm, refuse_eq]
      · refine AG.no (v := 0) 1 rfl ?_ ?_ q7
        · unfold f_X10_lay; rw [rowAt_ok hr, bndX_r, q2', bnd2_s, if_pos rfl, c1, bnd_s, needRoom_eq (q7.cn hr) hn (by omega), if_neg e8, bndX_l]
        · unfold f_X11_lay; rw [isRow_ok hr, bnd_s, if_neg n10, q3', bnd2_s, if_pos rfl, bnd_s, nz0, s2, bnd_s]
          simp (disch := omega) only [↓bnd_s, ↓bnd2_s, ↓bnd3_s, ↓bnd4_s, ↓bnd5_s, ↓bndR_l, ↓bndR_r, ↓bndX_l, ↓bndX_r, bnd_s, bnd2_s, bnd3_s, bnd4_s, bnd5_s, bndR_l, bndR_r, bndX_l, bndX_r, nq_lt, nq_le, nq_inj, nq_add, nq_mul, nq_sub, nq_div, nq_neg1, nq_clamp, nq_ne1, nq_le1, ne1_lt, n1_lt0, n1_lt, n1_ne, nz0, nz1, nz2, nz3, nz4, nz5, nz6, nz8, nz10, nz31, nz32, nz50, nz400, nz800, nz3200, nz20000, nlt_f, nlt_t, nle_f, nle_t, neq_f, neq_t, gi_si_e, gi_si_n, gp_sp_e, gp_sp_n, gr_sr_e, gr_sr_n, gi_sp, gi_sr, gp_si, gp_sr, gr_si, gr_sp, upd_e, upd_n, un_e, un_n, an_sn_e, an_sn_n, an_sm, an_sv, am_sn, am_sm_e, am_sm_n, am_sv, ai_sn, ai_sm, ai_sv_e, ai_sv_n, reduceIte, or_false, false_or, or_true, true_or, or_self, and_true, true_and, and_false, false_and, not_true_eq_false, not_false_eq_true, q7.mn hr, q7.mm, refuse_eq]
    · obtain ⟨v, hv⟩ := cardsX_L q6 q5 _ (fu := FU) (i := 0) (x := 0) rfl (by omega) (by unfold FU; omega)
      have ny : ¬ nI y = -1 := fun q => by have q' : nI y = -nI 1 := q; rw [nq_ne1 (by omega)] at q'; exact q'
      refine AG.no (v := 0) 1 rfl ?_ ?_ q4
      · unfold f_X10_lay; rw [rowAt_ok hr, bndX_r, q2, bnd2_s, if_neg ny]; rfl
      · unfold f_X11_lay; rw [isRow_ok hr, bnd_s, if_neg n10, q3, bnd2_s, if_neg ny, bnd_s, show f_X11_lay_L32 τ1 FU 0 0 = _ from hv, bnd_s, if_pos rfl]; rfl
  · refine AG.no (v := 0) 0 rfl ?_ ?_ h
    · unfold f_X10_lay; rw [hb]; rfl
    · unfold f_X11_lay; rw [hb2]; rfl
end LZ
