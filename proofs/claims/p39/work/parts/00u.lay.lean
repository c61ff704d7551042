/-! laying the runs of the text, in the class alone -/
def kC (σ σ' : St) : Prop := (∀ k, 512 ≤ k → gi σ' k = gi σ k) ∧ gi σ' 98 = gi σ 98 ∧ ∀ k, gp σ' k = gp σ k
theorem kC.refl (σ : St) : kC σ σ := ⟨fun _ _ => rfl, rfl, fun _ => rfl⟩
theorem kC.trans {σ σ' σ2 : St} (h : kC σ σ') (h2 : kC σ' σ2) : kC σ σ2 := ⟨fun k a => (h2.1 k a).trans (h.1 k a), h2.2.1.trans h.2.1, fun k => (h2.2.2 k).trans (h.2.2 k)⟩
def sN (f : Nat → Nat) : Nat → Nat
  | 0 => 0
  | k + 1 => sN f k + f k
theorem sN_s (f : Nat → Nat) (k : Nat) : sN f (k + 1) = sN f k + f k := rfl
theorem sN_le (f : Nat → Nat) : ∀ {m : Nat}, (∀ k, k < m → f k ≤ 400) → sN f m ≤ 400 * m
  | 0, _ => Nat.le_refl _
  | m + 1, h => by
    have h1 := sN_le f (m := m) fun k hk => h k (by omega)
    have h2 := h m (by omega)
    rw [sN_s]; omega
theorem sN_mono (f : Nat → Nat) {i m : Nat} (h : i ≤ m) : sN f i ≤ sN f m := by
  induction m with
  | zero => rw [show i = 0 by omega]; exact Nat.le_refl _
  | succ m ih =>
    by_cases e : i = m + 1
    · rw [e]; exact Nat.le_refl _
    · have := ih (by omega)
      rw [sN_s]; omega
section LZ
variable {σ τ : St}
theorem cardsC_L {f : Nat → Nat} {m : Nat} (hm : gi σ 98 = nI m) (hm5 : m ≤ 50) (hf : ∀ k, k < m → gi σ (8 * (64 + k) + 1) = nI (f k)) : ∀ (d : Nat) {fu i : Nat}, m - i = d → i ≤ m → d < fu → f_X5_cardsOfAllRuns_L4 σ fu (nI (sN f i)) (nI i) = some (nI (sN f m)) := by
  intro d
  induction d with
  | zero =>
    intro fu i hd hi hfu
    obtain ⟨fu, rfl⟩ : ∃ f, fu = f + 1 := ⟨fu - 1, by omega⟩
    have e : i = m := by omega
    subst e
    unfold f_X5_cardsOfAllRuns_L4; simp (disch := omega) only [↓bnd_s, ↓bnd2_s, ↓bnd3_s, ↓bnd4_s, ↓bnd5_s, ↓bndR_l, ↓bndR_r, ↓bndX_l, ↓bndX_r, ↓bndQ_s, ↓bndQ2_s, bndQ_s, bndQ2_s, bnd_s, bnd2_s, bnd3_s, bnd4_s, bnd5_s, bndR_l, bndR_r, bndX_l, bndX_r, nq_lt, nq_le, nq_inj, nq_add, nq_mul, nq_sub, nq_div, nq_neg1, nq_clamp, nq_ne1, nq_le1, ne1_lt, n1_lt0, n1_lt, n1_ne, nz0, nz1, nz2, nz3, nz4, nz5, nz6, nz8, nz10, nz31, nz32, nz50, nz400, nz800, nz3200, nz20000, nlt_f, nlt_t, nle_f, nle_t, neq_f, neq_t, gi_si_e, gi_si_n, gp_sp_e, gp_sp_n, gr_sr_e, gr_sr_n, gi_sp, gi_sr, gp_si, gp_sr, gr_si, gr_sp, upd_e, upd_n, un_e, un_n, an_sn_e, an_sn_n, an_sm, an_sv, am_sn, am_sm_e, am_sm_n, am_sv, ai_sn, ai_sm, ai_sv_e, ai_sv_n, reduceIte, or_false, false_or, or_true, true_or, or_self, and_true, true_and, and_false, false_and, not_true_eq_false, not_false_eq_true, hm]
  | succ d ih =>
    intro fu i hd hi hfu
    obtain ⟨fu, rfl⟩ : ∃ f, fu = f + 1 := ⟨fu - 1, by omega⟩
    have := ih (fu := fu) (i := i + 1) (by omega) (by omega) (by omega)
    unfold f_X5_cardsOfAllRuns_L4; simp (disch := omega) only [↓bnd_s, ↓bnd2_s, ↓bnd3_s, ↓bnd4_s, ↓bnd5_s, ↓bndR_l, ↓bndR_r, ↓bndX_l, ↓bndX_r, ↓bndQ_s, ↓bndQ2_s, bndQ_s, bndQ2_s, bnd_s, bnd2_s, bnd3_s, bnd4_s, bnd5_s, bndR_l, bndR_r, bndX_l, bndX_r, nq_lt, nq_le, nq_inj, nq_add, nq_mul, nq_sub, nq_div, nq_neg1, nq_clamp, nq_ne1, nq_le1, ne1_lt, n1_lt0, n1_lt, n1_ne, nz0, nz1, nz2, nz3, nz4, nz5, nz6, nz8, nz10, nz31, nz32, nz50, nz400, nz800, nz3200, nz20000, nlt_f, nlt_t, nle_f, nle_t, neq_f, neq_t, gi_si_e, gi_si_n, gp_sp_e, gp_sp_n, gr_sr_e, gr_sr_n, gi_sp, gi_sr, gp_si, gp_sr, gr_si, gr_sp, upd_e, upd_n, un_e, un_n, an_sn_e, an_sn_n, an_sm, an_sv, am_sn, am_sm_e, am_sm_n, am_sv, ai_sn, ai_sm, ai_sv_e, ai_sv_n, reduceIte, or_false, false_or, or_true, true_or, or_self, and_true, true_and, and_false, false_and, not_true_eq_false, not_false_eq_true, hm, hf i (by omega)]
    exact this
end LZ
section LY
variable {a : AS} {R : QR} {σ σ' : St}
theorem qIN.tR (h : qIN a R σ) (c : tR σ σ') : qIN a R σ' := by
  refine ⟨h.1, h.cd.fr (c.1 10 (by decide) (by decide) (by decide) (by decide)) (c.2.2 2) (c.2.2 3), fun r hr => ?_, ?_, fun j h1 h2 => ?_, fun r hr hf => ?_⟩
  · obtain ⟨q1, q2, q3, q4⟩ := h.2.2.1 r hr
    exact ⟨q1, q2, by rw [c.1 _ (by omega) (by omega) (by omega) (by omega)]; exact q3, by rw [c.2.2]; exact q4⟩
  · obtain ⟨m, m', s1, s2, s3⟩ := h.so
    exact ⟨m, m', (c.2.1 57 (by decide)).trans s1, (c.2.1 58 (by decide)).trans s2, s3⟩
  · rw [c.1 _ (by omega) (by omega) (by omega) (by omega)]; exact h.2.2.2.2.1 j h1 h2
  · rw [c.2.2]; exact h.2.2.2.2.2 r hr hf
theorem qIN.sd (h : qIN a R σ) {k : Nat} (hk : k = 112 ∨ k = 81) (v : Int32) : qIN a R (si σ k v) := by
  refine ⟨h.1, h.cd.fr (gi_si_n _ _ (by omega)) rfl rfl, fun r hr => ?_, h.so, fun j h1 h2 => ?_, fun r hr hf => h.2.2.2.2.2 r hr hf⟩
  · obtain ⟨q1, q2, q3, q4⟩ := h.2.2.1 r hr
    exact ⟨q1, q2, by rw [gi_si_n _ _ (by omega)]; exact q3, q4⟩
  · rw [gi_si_n _ _ (by omega)]; exact h.2.2.2.2.1 j h1 h2
theorem first_C {n k cnt : Nat} (hk : k < 400) (hr : RunC n cnt σ) : ∃ (x : Int32) (v : Int32), f_X7_firstOf (64 + n) (nI k) σ = some (x, si σ 112 v) := by
  obtain ⟨h1, h2, ⟨c, c1, c2⟩, h6, h7⟩ := hr
  obtain ⟨kd, hkd⟩ : ∃ kd, gp σ (8 * (64 + n)) = kd := ⟨_, rfl⟩
  rw [hkd] at h1 h6
  have simple : ∀ x : Int32, f_X7_firstOf (64 + n) (nI k) σ = some (x, σ) → ∃ (x : Int32) (v : Int32), f_X7_firstOf (64 + n) (nI k) σ = some (x, si σ 112 v) :=
    fun x e1 => ⟨x, gi σ 112, by rw [si_id rfl]; exact e1⟩
  match kd, h1, hkd, h6 with
  | 0, _, hkd, _ =>
    refine simple (gi σ (8 * (64 + n) + 2)) ?_
    unfold f_X7_firstOf; rw [hkd, show kOrd 0 = nI 0 from rfl]; simp (disch := omega) only [↓bnd_s, ↓bnd2_s, ↓bnd3_s, ↓bnd4_s, ↓bnd5_s, ↓bndR_l, ↓bndR_r, ↓bndX_l, ↓bndX_r, ↓bndQ_s, ↓bndQ2_s, bndQ_s, bndQ2_s, bnd_s, bnd2_s, bnd3_s, bnd4_s, bnd5_s, bndR_l, bndR_r, bndX_l, bndX_r, nq_lt, nq_le, nq_inj, nq_add, nq_mul, nq_sub, nq_div, nq_neg1, nq_clamp, nq_ne1, nq_le1, ne1_lt, n1_lt0, n1_lt, n1_ne, nz0, nz1, nz2, nz3, nz4, nz5, nz6, nz8, nz10, nz31, nz32, nz50, nz400, nz800, nz3200, nz20000, nlt_f, nlt_t, nle_f, nle_t, neq_f, neq_t, gi_si_e, gi_si_n, gp_sp_e, gp_sp_n, gr_sr_e, gr_sr_n, gi_sp, gi_sr, gp_si, gp_sr, gr_si, gr_sp, upd_e, upd_n, un_e, un_n, an_sn_e, an_sn_n, an_sm, an_sv, am_sn, am_sm_e, am_sm_n, am_sv, ai_sn, ai_sm, ai_sv_e, ai_sv_n, reduceIte, or_false, false_or, or_true, true_or, or_self, and_true, true_and, and_false, false_and, not_true_eq_false, not_false_eq_true, show zSwK.getD 0 (nI 0) = nI 0 from rfl]
  | 1, _, hkd, _ =>
    refine simple (gi σ (8 * (64 + n) + 2) + nI k * nI c) ?_
    unfold f_X7_firstOf; rw [hkd, show kOrd 1 = nI 1 from rfl]; simp (disch := omega) only [↓bnd_s, ↓bnd2_s, ↓bnd3_s, ↓bnd4_s, ↓bnd5_s, ↓bndR_l, ↓bndR_r, ↓bndX_l, ↓bndX_r, ↓bndQ_s, ↓bndQ2_s, bndQ_s, bndQ2_s, bnd_s, bnd2_s, bnd3_s, bnd4_s, bnd5_s, bndR_l, bndR_r, bndX_l, bndX_r, nq_lt, nq_le, nq_inj, nq_add, nq_mul, nq_sub, nq_div, nq_neg1, nq_clamp, nq_ne1, nq_le1, ne1_lt, n1_lt0, n1_lt, n1_ne, nz0, nz1, nz2, nz3, nz4, nz5, nz6, nz8, nz10, nz31, nz32, nz50, nz400, nz800, nz3200, nz20000, nlt_f, nlt_t, nle_f, nle_t, neq_f, neq_t, gi_si_e, gi_si_n, gp_sp_e, gp_sp_n, gr_sr_e, gr_sr_n, gi_sp, gi_sr, gp_si, gp_sr, gr_si, gr_sp, upd_e, upd_n, un_e, un_n, an_sn_e, an_sn_n, an_sm, an_sv, am_sn, am_sm_e, am_sm_n, am_sv, ai_sn, ai_sm, ai_sv_e, ai_sv_n, reduceIte, or_false, false_or, or_true, true_or, or_self, and_true, true_and, and_false, false_and, not_true_eq_false, not_false_eq_true, show zSwK.getD 1 (nI 0) = nI 1 from rfl, c2]
  | 2, _, hkd, _ =>
    refine simple (gi σ (8 * (64 + n) + 2) - nI k * nI c) ?_
    unfold f_X7_firstOf; rw [hkd, show kOrd 2 = nI 2 from rfl]; simp (disch := omega) only [↓bnd_s, ↓bnd2_s, ↓bnd3_s, ↓bnd4_s, ↓bnd5_s, ↓bndR_l, ↓bndR_r, ↓bndX_l, ↓bndX_r, ↓bndQ_s, ↓bndQ2_s, bndQ_s, bndQ2_s, bnd_s, bnd2_s, bnd3_s, bnd4_s, bnd5_s, bndR_l, bndR_r, bndX_l, bndX_r, nq_lt, nq_le, nq_inj, nq_add, nq_mul, nq_sub, nq_div, nq_neg1, nq_clamp, nq_ne1, nq_le1, ne1_lt, n1_lt0, n1_lt, n1_ne, nz0, nz1, nz2, nz3, nz4, nz5, nz6, nz8, nz10, nz31, nz32, nz50, nz400, nz800, nz3200, nz20000, nlt_f, nlt_t, nle_f, nle_t, neq_f, neq_t, gi_si_e, gi_si_n, gp_sp_e, gp_sp_n, gr_sr_e, gr_sr_n, gi_sp, gi_sr, gp_si, gp_sr, gr_si, gr_sp, upd_e, upd_n, un_e, un_n, an_sn_e, an_sn_n, an_sm, an_sv, am_sn, am_sm_e, am_sm_n, am_sv, ai_sn, ai_sm, ai_sv_e, ai_sv_n, reduceIte, or_false, false_or, or_true, true_or, or_self, and_true, true_and, and_false, false_and, not_true_eq_false, not_false_eq_true, show zSwK.getD 2 (nI 0) = nI 2 from rfl, c2]
  | 3, _, hkd, _ =>
    refine simple (if k - k / 2 * 2 = 0 then gi σ (8 * (64 + n) + 2) else gi σ (8 * (64 + n) + 2) + nI c) ?_
    unfold f_X7_firstOf; rw [hkd, show kOrd 3 = nI 3 from rfl]
    by_cases e : k - k / 2 * 2 = 0
    · simp (disch := omega) only [↓bnd_s, ↓bnd2_s, ↓bnd3_s, ↓bnd4_s, ↓bnd5_s, ↓bndR_l, ↓bndR_r, ↓bndX_l, ↓bndX_r, ↓bndQ_s, ↓bndQ2_s, bndQ_s, bndQ2_s, bnd_s, bnd2_s, bnd3_s, bnd4_s, bnd5_s, bndR_l, bndR_r, bndX_l, bndX_r, nq_lt, nq_le, nq_inj, nq_add, nq_mul, nq_sub, nq_div, nq_neg1, nq_clamp, nq_ne1, nq_le1, ne1_lt, n1_lt0, n1_lt, n1_ne, nz0, nz1, nz2, nz3, nz4, nz5, nz6, nz8, nz10, nz31, nz32, nz50, nz400, nz800, nz3200, nz20000, nlt_f, nlt_t, nle_f, nle_t, neq_f, neq_t, gi_si_e, gi_si_n, gp_sp_e, gp_sp_n, gr_sr_e, gr_sr_n, gi_sp, gi_sr, gp_si, gp_sr, gr_si, gr_sp, upd_e, upd_n, un_e, un_n, an_sn_e, an_sn_n, an_sm, an_sv, am_sn, am_sm_e, am_sm_n, am_sv, ai_sn, ai_sm, ai_sv_e, ai_sv_n, reduceIte, or_false, false_or, or_true, true_or, or_self, and_true, true_and, and_false, false_and, not_true_eq_false, not_false_eq_true, show zSwK.getD 3 (nI 0) = nI 3 from rfl, c2, e]
    · simp (disch := omega) only [↓bnd_s, ↓bnd2_s, ↓bnd3_s, ↓bnd4_s, ↓bnd5_s, ↓bndR_l, ↓bndR_r, ↓bndX_l, ↓bndX_r, ↓bndQ_s, ↓bndQ2_s, bndQ_s, bndQ2_s, bnd_s, bnd2_s, bnd3_s, bnd4_s, bnd5_s, bndR_l, bndR_r, bndX_l, bndX_r, nq_lt, nq_le, nq_inj, nq_add, nq_mul, nq_sub, nq_div, nq_neg1, nq_clamp, nq_ne1, nq_le1, ne1_lt, n1_lt0, n1_lt, n1_ne, nz0, nz1, nz2, nz3, nz4, nz5, nz6, nz8, nz10, nz31, nz32, nz50, nz400, nz800, nz3200, nz20000, nlt_f, nlt_t, nle_f, nle_t, neq_f, neq_t, gi_si_e, gi_si_n, gp_sp_e, gp_sp_n, gr_sr_e, gr_sr_n, gi_sp, gi_sr, gp_si, gp_sr, gr_si, gr_sp, upd_e, upd_n, un_e, un_n, an_sn_e, an_sn_n, an_sm, an_sv, am_sn, am_sm_e, am_sm_n, am_sv, ai_sn, ai_sm, ai_sv_e, ai_sv_n, reduceIte, or_false, false_or, or_true, true_or, or_self, and_true, true_and, and_false, false_and, not_true_eq_false, not_false_eq_true, show zSwK.getD 3 (nI 0) = nI 3 from rfl, c2, e]
  | 4, _, hkd, _ =>
    unfold f_X7_firstOf; rw [hkd, show kOrd 4 = nI 4 from rfl]
    unfold f_X2_draw f_X10_rest
    simp (disch := omega) only [↓bnd_s, ↓bnd2_s, ↓bnd3_s, ↓bnd4_s, ↓bnd5_s, ↓bndR_l, ↓bndR_r, ↓bndX_l, ↓bndX_r, ↓bndQ_s, ↓bndQ2_s, bndQ_s, bndQ2_s, bnd_s, bnd2_s, bnd3_s, bnd4_s, bnd5_s, bndR_l, bndR_r, bndX_l, bndX_r, nq_lt, nq_le, nq_inj, nq_add, nq_mul, nq_sub, nq_div, nq_neg1, nq_clamp, nq_ne1, nq_le1, ne1_lt, n1_lt0, n1_lt, n1_ne, nz0, nz1, nz2, nz3, nz4, nz5, nz6, nz8, nz10, nz31, nz32, nz50, nz400, nz800, nz3200, nz20000, nlt_f, nlt_t, nle_f, nle_t, neq_f, neq_t, gi_si_e, gi_si_n, gp_sp_e, gp_sp_n, gr_sr_e, gr_sr_n, gi_sp, gi_sr, gp_si, gp_sr, gr_si, gr_sp, upd_e, upd_n, un_e, un_n, an_sn_e, an_sn_n, an_sm, an_sv, am_sn, am_sm_e, am_sm_n, am_sv, ai_sn, ai_sm, ai_sv_e, ai_sv_n, reduceIte, or_false, false_or, or_true, true_or, or_self, and_true, true_and, and_false, false_and, not_true_eq_false, not_false_eq_true, show zSwK.getD 4 (nI 0) = nI 5 from rfl, c2]
    exact ⟨_, _, rfl⟩
  | 5, _, hkd, h6 =>
    obtain ⟨ln, l1, l2, l3⟩ := h6 rfl
    refine simple (gi σ (8 * (64 + n) + 2) + nI c * nI (k - k / ln * ln)) ?_
    unfold f_X7_firstOf; rw [hkd, show kOrd 5 = nI 5 from rfl]
    unfold f_X10_rest
    have := Nat.div_mul_le_self k ln
    simp (disch := omega) only [↓bnd_s, ↓bnd2_s, ↓bnd3_s, ↓bnd4_s, ↓bnd5_s, ↓bndR_l, ↓bndR_r, ↓bndX_l, ↓bndX_r, ↓bndQ_s, ↓bndQ2_s, bndQ_s, bndQ2_s, bnd_s, bnd2_s, bnd3_s, bnd4_s, bnd5_s, bndR_l, bndR_r, bndX_l, bndX_r, nq_lt, nq_le, nq_inj, nq_add, nq_mul, nq_sub, nq_div, nq_neg1, nq_clamp, nq_ne1, nq_le1, ne1_lt, n1_lt0, n1_lt, n1_ne, nz0, nz1, nz2, nz3, nz4, nz5, nz6, nz8, nz10, nz31, nz32, nz50, nz400, nz800, nz3200, nz20000, nlt_f, nlt_t, nle_f, nle_t, neq_f, neq_t, gi_si_e, gi_si_n, gp_sp_e, gp_sp_n, gr_sr_e, gr_sr_n, gi_sp, gi_sr, gp_si, gp_sr, gr_si, gr_sp, upd_e, upd_n, un_e, un_n, an_sn_e, an_sn_n, an_sm, an_sv, am_sn, am_sm_e, am_sm_n, am_sv, ai_sn, ai_sm, ai_sv_e, ai_sv_n, reduceIte, or_false, false_or, or_true, true_or, or_self, and_true, true_and, and_false, false_and, not_true_eq_false, not_false_eq_true, show zSwK.getD 5 (nI 0) = nI 4 from rfl, c2, l3]
theorem second_C {n k cnt : Nat} (hk : k < 400) (hr : RunC n cnt σ) : ∃ y : Int32, f_X7_secondOf (64 + n) (nI k) σ = some y := by
  obtain ⟨h1, h2, h3, h6, p, p1, h7⟩ := hr
  by_cases e : p = 0
  · refine ⟨nI 0, ?_⟩
    unfold f_X7_secondOf f_X10_rest; simp (disch := omega) only [↓bnd_s, ↓bnd2_s, ↓bnd3_s, ↓bnd4_s, ↓bnd5_s, ↓bndR_l, ↓bndR_r, ↓bndX_l, ↓bndX_r, ↓bndQ_s, ↓bndQ2_s, bndQ_s, bndQ2_s, bnd_s, bnd2_s, bnd3_s, bnd4_s, bnd5_s, bndR_l, bndR_r, bndX_l, bndX_r, nq_lt, nq_le, nq_inj, nq_add, nq_mul, nq_sub, nq_div, nq_neg1, nq_clamp, nq_ne1, nq_le1, ne1_lt, n1_lt0, n1_lt, n1_ne, nz0, nz1, nz2, nz3, nz4, nz5, nz6, nz8, nz10, nz31, nz32, nz50, nz400, nz800, nz3200, nz20000, nlt_f, nlt_t, nle_f, nle_t, neq_f, neq_t, gi_si_e, gi_si_n, gp_sp_e, gp_sp_n, gr_sr_e, gr_sr_n, gi_sp, gi_sr, gp_si, gp_sr, gr_si, gr_sp, upd_e, upd_n, un_e, un_n, an_sn_e, an_sn_n, an_sm, an_sv, am_sn, am_sm_e, am_sm_n, am_sv, ai_sn, ai_sm, ai_sv_e, ai_sv_n, reduceIte, or_false, false_or, or_true, true_or, or_self, and_true, true_and, and_false, false_and, not_true_eq_false, not_false_eq_true, h7, e]
  · refine ⟨nI (k - k / p * p), ?_⟩
    have := Nat.div_mul_le_self k p
    unfold f_X7_secondOf f_X10_rest; simp (disch := omega) only [↓bnd_s, ↓bnd2_s, ↓bnd3_s, ↓bnd4_s, ↓bnd5_s, ↓bndR_l, ↓bndR_r, ↓bndX_l, ↓bndX_r, ↓bndQ_s, ↓bndQ2_s, bndQ_s, bndQ2_s, bnd_s, bnd2_s, bnd3_s, bnd4_s, bnd5_s, bndR_l, bndR_r, bndX_l, bndX_r, nq_lt, nq_le, nq_inj, nq_add, nq_mul, nq_sub, nq_div, nq_neg1, nq_clamp, nq_ne1, nq_le1, ne1_lt, n1_lt0, n1_lt, n1_ne, nz0, nz1, nz2, nz3, nz4, nz5, nz6, nz8, nz10, nz31, nz32, nz50, nz400, nz800, nz3200, nz20000, nlt_f, nlt_t, nle_f, nle_t, neq_f, neq_t, gi_si_e, gi_si_n, gp_sp_e, gp_sp_n, gr_sr_e, gr_sr_n, gi_sp, gi_sr, gp_si, gp_sr, gr_si, gr_sp, upd_e, upd_n, un_e, un_n, an_sn_e, an_sn_n, an_sm, an_sv, am_sn, am_sm_e, am_sm_n, am_sv, ai_sn, ai_sm, ai_sv_e, ai_sv_n, reduceIte, or_false, false_or, or_true, true_or, or_self, and_true, true_and, and_false, false_and, not_true_eq_false, not_false_eq_true, h7]
theorem app1_seg {f : Nat → Int32} {L : List Int32} (h : seg f 0 L.length = L) (v : Int32) : seg (upd f L.length v) 0 (L ++ [v]).length = L ++ [v] := by
  rw [List.length_append, List.length_singleton, seg_snoc, Nat.zero_add, upd_e _ _ rfl]
  congr 1
  exact (seg_congr fun k hk => by rw [Nat.zero_add]; exact upd_n _ _ (by omega)).trans h
theorem layRun_C {r n C : Nat} (hr : r < 4) (hn : n < 80) (hC : C ≤ 400) : ∀ (d : Nat) {fu k : Nat} {a : AS} {R : QR} {σ : St}, qIN a R σ → RunC n C σ → C - k = d → k ≤ C → (R r).length + (C - k) ≤ 800 → an a 0 + (C - k) ≤ 20000 → d < fu →
    ∃ (σ' : St) (a' : AS) (L : List Int32), f_X10_layRun_L2 (64 + n) (16 + r) fu (nI k) σ = some σ' ∧ qIN a' (qRs R r (R r ++ L)) σ' ∧ kC σ σ' ∧ L.length = C - k ∧ an a' 0 = an a 0 + (C - k) := by
  intro d
  induction d with
  | zero =>
    intro fu k a R σ h hR hd hk h8 h2 hf
    obtain ⟨fu, rfl⟩ : ∃ f, fu = f + 1 := ⟨fu - 1, by omega⟩
    refine ⟨σ, a, [], ?_, by rw [List.append_nil, qRs_id]; exact h, kC.refl σ, by rw [List.length_nil]; omega, by omega⟩
    unfold f_X10_layRun_L2; simp (disch := omega) only [↓bnd_s, ↓bnd2_s, ↓bnd3_s, ↓bnd4_s, ↓bnd5_s, ↓bndR_l, ↓bndR_r, ↓bndX_l, ↓bndX_r, ↓bndQ_s, ↓bndQ2_s, bndQ_s, bndQ2_s, bnd_s, bnd2_s, bnd3_s, bnd4_s, bnd5_s, bndR_l, bndR_r, bndX_l, bndX_r, nq_lt, nq_le, nq_inj, nq_add, nq_mul, nq_sub, nq_div, nq_neg1, nq_clamp, nq_ne1, nq_le1, ne1_lt, n1_lt0, n1_lt, n1_ne, nz0, nz1, nz2, nz3, nz4, nz5, nz6, nz8, nz10, nz31, nz32, nz50, nz400, nz800, nz3200, nz20000, nlt_f, nlt_t, nle_f, nle_t, neq_f, neq_t, gi_si_e, gi_si_n, gp_sp_e, gp_sp_n, gr_sr_e, gr_sr_n, gi_sp, gi_sr, gp_si, gp_sr, gr_si, gr_sp, upd_e, upd_n, un_e, un_n, an_sn_e, an_sn_n, an_sm, an_sv, am_sn, am_sm_e, am_sm_n, am_sv, ai_sn, ai_sm, ai_sv_e, ai_sv_n, reduceIte, or_false, false_or, or_true, true_or, or_self, and_true, true_and, and_false, false_and, not_true_eq_false, not_false_eq_true, hR.2.1]
  | succ d ih =>
    intro fu k a R σ h hR hd hk h8 h2 hf
    obtain ⟨fu, rfl⟩ : ∃ f, fu = f + 1 := ⟨fu - 1, by omega⟩
    obtain ⟨x, v, f1⟩ := first_C (show k < 400 by omega) hR
    have q1 := h.sd (k := 112) (Or.inl rfl) v
    have c1 : kC σ (si σ 112 v) := ⟨fun j hj => gi_si_n _ _ (by omega), gi_si_n _ _ (by decide), fun _ => rfl⟩
    have hR1 : RunC n C (si σ 112 v) := hR.fr (fun j j1 j2 => c1.1 j (by omega)) rfl
    obtain ⟨y, f2⟩ := second_C (show k < 400 by omega) hR1
    obtain ⟨σ1, e1⟩ : ∃ z, z = si σ 112 v := ⟨_, rfl⟩
    rw [← e1] at f1 f2 q1 c1 hR1
    have f3 := make_eq q1.cd.1 (show an a 0 < 20000 by omega) x y
    have q2 := q1.make (show an a 0 < 20000 by omega) x y
    unfold mkS at q2
    have c2 : kC σ1 (si (sr (sr σ1 2 (upd (gr σ1 2) (an a 0) x)) 3 (upd (gr σ1 3) (an a 0) y)) 10 (nI (an a 0 + 1))) := ⟨fun j hj => by rw [gi_si_n _ _ (by omega)]; rfl, by rw [gi_si_n _ _ (by decide)]; rfl, fun _ => rfl⟩
    obtain ⟨σ2, e2⟩ : ∃ z, z = si (sr (sr σ1 2 (upd (gr σ1 2) (an a 0) x)) 3 (upd (gr σ1 3) (an a 0) y)) 10 (nI (an a 0 + 1)) := ⟨_, rfl⟩
    rw [← e2] at f3 q2 c2
    have f4 := append_eq (v := nI (an a 0)) (q2.sz hr) (by omega)
    have q3 := q2.wr hr (L := R r ++ [nI (an a 0)]) (F := upd (gr σ2 (16 + r + 16)) (R r).length (nI (an a 0))) (by rw [List.length_append, List.length_singleton]; omega) (fun z hz => by
      rcases List.mem_append.mp hz with hz | hz
      · exact q2.vl hr z hz
      · exact ⟨an a 0, by rw [mkA_0]; omega, List.mem_singleton.mp hz⟩) (app1_seg (q2.sg hr) _)
    have hl1 : (R r ++ [nI (an a 0)]).length = (R r).length + 1 := by rw [List.length_append, List.length_singleton]
    rw [hl1] at q3
    have c3 : kC σ2 (si (sr σ2 (16 + r + 16) (upd (gr σ2 (16 + r + 16)) (R r).length (nI (an a 0)))) (8 * (16 + r) + 1) (nI ((R r).length + 1))) := ⟨fun j hj => by rw [gi_si_n _ _ (by omega)]; rfl, by rw [gi_si_n _ _ (by omega)]; rfl, fun _ => rfl⟩
    have c4 := c2.trans c3
    have hR3 := hR1.fr (fun j j1 j2 => c4.1 j (by omega)) (c4.2.2 _)
    obtain ⟨σ', a', L, g1, g2, g3, g4, g5⟩ := ih (fu := fu) (k := k + 1) q3 hR3 (by omega) (by omega) (by rw [qRs_e _ _ rfl, hl1]; omega) (by rw [mkA_0]; omega) (by omega)
    rw [qRs_qRs, qRs_e _ _ rfl, List.append_assoc] at g2
    refine ⟨σ', a', [nI (an a 0)] ++ L, ?_, g2, (c1.trans c4).trans g3, by rw [List.length_append, List.length_singleton, g4]; omega, by rw [g5, mkA_0]; omega⟩
    unfold f_X10_layRun_L2
    rw [hR.2.1, if_neg (by rw [nq_le (by omega) (by omega)]; omega), f1, bnd2_s, f2, bnd_s, f3, bnd2_s, f4, bnd_s, nz1, nq_add]
    exact g1
theorem layAll_R {r m : Nat} {f : Nat → Nat} (hr : r < 4) (hm5 : m ≤ 50) (hf4 : ∀ k, k < m → f k ≤ 400) : ∀ (d : Nat) {fu i : Nat} {a : AS} {R : QR} {σ : St}, qIN a R σ → gi σ 98 = nI m → (∀ k, k < m → RunC k (f k) σ) → m - i = d → i ≤ m → (R r).length + (sN f m - sN f i) ≤ 800 → an a 0 + (sN f m - sN f i) ≤ 20000 → d < fu →
    ∃ (σ' : St) (a' : AS) (L : List Int32), f_X10_lay_L48 (16 + r) fu (nI i) σ = some σ' ∧ qIN a' (qRs R r (R r ++ L)) σ' ∧ L.length = sN f m - sN f i ∧ an a' 0 = an a 0 + (sN f m - sN f i) := by
  intro d
  induction d with
  | zero =>
    intro fu i a R σ h h98 hk hd hi h8 h2 hfu
    obtain ⟨fu, rfl⟩ : ∃ f, fu = f + 1 := ⟨fu - 1, by omega⟩
    have e : i = m := by omega
    subst e
    refine ⟨σ, a, [], ?_, by rw [List.append_nil, qRs_id]; exact h, by rw [List.length_nil]; omega, by omega⟩
    unfold f_X10_lay_L48; simp (disch := omega) only [↓bnd_s, ↓bnd2_s, ↓bnd3_s, ↓bnd4_s, ↓bnd5_s, ↓bndR_l, ↓bndR_r, ↓bndX_l, ↓bndX_r, ↓bndQ_s, ↓bndQ2_s, bndQ_s, bndQ2_s, bnd_s, bnd2_s, bnd3_s, bnd4_s, bnd5_s, bndR_l, bndR_r, bndX_l, bndX_r, nq_lt, nq_le, nq_inj, nq_add, nq_mul, nq_sub, nq_div, nq_neg1, nq_clamp, nq_ne1, nq_le1, ne1_lt, n1_lt0, n1_lt, n1_ne, nz0, nz1, nz2, nz3, nz4, nz5, nz6, nz8, nz10, nz31, nz32, nz50, nz400, nz800, nz3200, nz20000, nlt_f, nlt_t, nle_f, nle_t, neq_f, neq_t, gi_si_e, gi_si_n, gp_sp_e, gp_sp_n, gr_sr_e, gr_sr_n, gi_sp, gi_sr, gp_si, gp_sr, gr_si, gr_sp, upd_e, upd_n, un_e, un_n, an_sn_e, an_sn_n, an_sm, an_sv, am_sn, am_sm_e, am_sm_n, am_sv, ai_sn, ai_sm, ai_sv_e, ai_sv_n, reduceIte, or_false, false_or, or_true, true_or, or_self, and_true, true_and, and_false, false_and, not_true_eq_false, not_false_eq_true, h98]
  | succ d ih =>
    intro fu i a R σ h h98 hk hd hi h8 h2 hfu
    obtain ⟨fu, rfl⟩ : ∃ f, fu = f + 1 := ⟨fu - 1, by omega⟩
    have k1 := hk i (by omega)
    have k4 := hf4 i (by omega)
    have hs := sN_s f i
    have hmo := sN_mono f (show i + 1 ≤ m by omega)
    obtain ⟨σ1, a1, L1, g1, g2, g3, g4, g5⟩ := layRun_C hr (show i < 80 by omega) k4 _ (fu := FU) (k := 0) h k1 rfl (Nat.zero_le _) (by omega) (by omega) (by unfold FU; omega)
    obtain ⟨σ', a', L, e1, e2, e3, e4⟩ := ih (fu := fu) (i := i + 1) g2 (g3.2.1.trans h98) (fun k hkm => (hk k hkm).fr (fun j j1 j2 => g3.1 j (by omega)) (g3.2.2 _)) (by omega) (by omega) (by rw [qRs_e _ _ rfl, List.length_append]; omega) (by omega) (by omega)
    rw [qRs_qRs, qRs_e _ _ rfl, List.append_assoc] at e2
    refine ⟨σ', a', L1 ++ L, ?_, e2, by rw [List.length_append]; omega, by omega⟩
    unfold f_X10_lay_L48 f_X10_layRun; simp (disch := omega) only [↓bnd_s, ↓bnd2_s, ↓bnd3_s, ↓bnd4_s, ↓bnd5_s, ↓bndR_l, ↓bndR_r, ↓bndX_l, ↓bndX_r, ↓bndQ_s, ↓bndQ2_s, bndQ_s, bndQ2_s, bnd_s, bnd2_s, bnd3_s, bnd4_s, bnd5_s, bndR_l, bndR_r, bndX_l, bndX_r, nq_lt, nq_le, nq_inj, nq_add, nq_mul, nq_sub, nq_div, nq_neg1, nq_clamp, nq_ne1, nq_le1, ne1_lt, n1_lt0, n1_lt, n1_ne, nz0, nz1, nz2, nz3, nz4, nz5, nz6, nz8, nz10, nz31, nz32, nz50, nz400, nz800, nz3200, nz20000, nlt_f, nlt_t, nle_f, nle_t, neq_f, neq_t, gi_si_e, gi_si_n, gp_sp_e, gp_sp_n, gr_sr_e, gr_sr_n, gi_sp, gi_sr, gp_si, gp_sr, gr_si, gr_sp, upd_e, upd_n, un_e, un_n, an_sn_e, an_sn_n, an_sm, an_sv, am_sn, am_sm_e, am_sm_n, am_sv, ai_sn, ai_sm, ai_sv_e, ai_sv_n, reduceIte, or_false, false_or, or_true, true_or, or_self, and_true, true_and, and_false, false_and, not_true_eq_false, not_false_eq_true, h98, g1]; exact e1
/-- the text is read: right, or not -/
theorem E_fault (h : qIN a R σ) {l : List RN} (hl : ∀ q, q ∈ l → okR q) (hl5 : l.length ≤ 50) (hT : TXc (rnA l) σ) : ∃ σ', f_X10_fault σ = some (-nI 1, σ') ∧ qIN a R σ' ∧ TXc (rnA l) σ' := by
  obtain ⟨σ', s1, s2, s3, s4, s5⟩ := text_C hl hl5 hT
  refine ⟨σ', ?_, h.tR s3, s2⟩
  unfold f_X10_fault
  rw [s1]; rfl
theorem E_lay (h : qIN a R σ) {r : Nat} (hr : r < 4) {l : List RN} (hl : ∀ q, q ∈ l → okR q) (hl5 : l.length ≤ 50) (hl1 : 1 ≤ l.length) (hT : TXc (rnA l) σ) :
    (∃ σ', f_X10_lay (nI r) σ = some (.inl zS, σ') ∧ qIN a R σ') ∨ ∃ (σ' : St) (a' : AS) (L : List Int32), 1 ≤ L.length ∧ (R r).length + L.length ≤ 800 ∧ f_X10_lay (nI r) σ = some (.inr (nI L.length), σ') ∧ qIN a' (qRs R r (R r ++ L)) σ' ∧ an a' 0 = an a 0 + L.length := by
  obtain ⟨σ1, s1, s2, s3, s4, s5⟩ := text_C hl hl5 hT
  have s1' : f_X5_readText σ = some (-1, σ1) := s1
  have q1 := h.tR s3
  have hn := h.len hr
  have hm := h.m
  obtain ⟨f, hf⟩ : ∃ f : Nat → Nat, f = fun k => ((l[k]?).map (fun q : RN => q.2.1)).getD 0 := ⟨_, rfl⟩
  have hk : ∀ k, k < l.length → (1 ≤ f k ∧ f k ≤ 400) ∧ RunC k (f k) σ1 := fun k hk => by
    have e := List.getElem?_eq_getElem (l := l) (i := k) hk
    have e2 : f k = (l[k]'hk).2.1 := by rw [hf]; show ((l[k]?).map (fun q : RN => q.2.1)).getD 0 = _; rw [e]; rfl
    rw [e2]
    exact ⟨(hl _ (List.getElem_mem hk)).2.1, s5 k _ e⟩
  have hS := sN_le f (m := l.length) fun k h9 => (hk k h9).1.2
  have hS1 : 1 ≤ sN f l.length := by
    have h1 := sN_mono f hl1
    have h2 := (hk 0 (by omega)).1.1
    rw [show sN f 1 = 0 + f 0 from rfl] at h1
    omega
  have c0 := cardsC_L s4 hl5 (fun k h9 => (hk k h9).2.2.1) _ (fu := FU) (i := 0) rfl (Nat.zero_le _) (by unfold FU; omega)
  rw [show sN f 0 = 0 from rfl] at c0
  have c1 : f_X5_cardsOfAllRuns σ1 = some (nI (sN f l.length)) := by unfold f_X5_cardsOfAllRuns; rw [nz0, c0]; rfl
  by_cases e8 : (R r).length + sN f l.length ≤ 800
  · by_cases e2 : an a 0 + sN f l.length ≤ 20000
    · obtain ⟨σ', a', L, g1, g2, g3, g4⟩ := layAll_R hr hl5 (fun k h9 => (hk k h9).1.2) _ (fu := FU) (i := 0) q1 s4 (fun k h9 => (hk k h9).2) rfl (Nat.zero_le _) (by rw [show sN f 0 = 0 from rfl]; omega) (by rw [show sN f 0 = 0 from rfl]; omega) (by unfold FU; omega)
      rw [show sN f 0 = 0 from rfl, Nat.sub_zero] at g3 g4
      rw [← g3] at hS1 e8 g4
      refine Or.inr ⟨σ', a', L, hS1, e8, ?_, g2, g4⟩
      rw [g3] at e8
      unfold f_X10_lay; rw [rowAt_ok hr, bndX_r, s1', bnd2_s, if_pos rfl, c1, bnd_s, needRoom_eq (q1.sz hr) hn (by omega), if_pos e8, bndX_r, needCards_eq q1.cd.1 hm (by omega), if_pos e2, bndX_r, nz0, g1, g3]; rfl
    · refine Or.inl ⟨σ1, ?_, q1⟩
      unfold f_X10_lay; rw [rowAt_ok hr, bndX_r, s1', bnd2_s, if_pos rfl, c1, bnd_s, needRoom_eq (q1.sz hr) hn (by omega), if_pos e8, bndX_r, needCards_eq q1.cd.1 hm (by omega), if_neg e2, bndX_l]
  · refine Or.inl ⟨σ1, ?_, q1⟩
    unfold f_X10_lay; rw [rowAt_ok hr, bndX_r, s1', bnd2_s, if_pos rfl, c1, bnd_s, needRoom_eq (q1.sz hr) hn (by omega), if_neg e8, bndX_l]
theorem E_clearText (h : qIN a R σ) : ∃ (v : Int32) (σ' : St), f_X10_clearText σ = some (v, σ') ∧ qIN a R σ' ∧ TXc [] σ' :=
  ⟨_, _, rfl, h.sd (Or.inr rfl) _, Nat.zero_le _, fun x hx => (nomatch hx), gi_si_e _ _ rfl, fun k x hk => by rw [List.getElem?_nil] at hk; cases hk⟩
theorem E_setSeed (h : qIN a R σ) (x : Int32) : f_X10_setSeed x σ = some (gi σ 112, si σ 112 x) ∧ qIN a R (si σ 112 x) := ⟨rfl, h.sd (Or.inl rfl) _⟩
end LY
