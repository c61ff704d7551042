/-! the reference's own look at a sorted row -/
theorem nar0 : vp_nar .boolean (nI 0) = 0 := by decide +kernel
theorem SRT.nn {key : Int32 → Int} {l : List Int32} (h : SRT key l []) : l = [] := List.eq_nil_of_length_eq_zero h.len.symm
section CH
variable {a : AS} {σ τ : St}
/-- 0 .. n: the row's cards in the reference are there, by their marks -/
def mR (a : AS) (r n : Nat) (τ : St) : Prop := gr τ 6 r = nI n ∧ n ≤ 800 ∧ MD a τ ∧ an a 0 ≤ 20000 ∧ ∀ k, k < n → am a r k < an a 0 ∧ gr τ 4 (800 * r + k) = nI (am a r k)
theorem mR.fa {r n : Nat} (h : mR a r n τ) {k : Nat} (hr : r < 4) (hk : k < n) : f_X11_firstAt (nI r) (nI k) τ = some (ai a 0 (am a r k)) := by
  obtain ⟨h1, h2, h3, h4, h5⟩ := h
  obtain ⟨h6, h7⟩ := h5 k hk
  unfold f_X11_firstAt
  simp (disch := omega) only [↓bnd_s, ↓bnd2_s, ↓bnd3_s, ↓bnd4_s, ↓bnd5_s, ↓bndR_l, ↓bndR_r, ↓bndX_l, ↓bndX_r, bnd_s, bnd2_s, bnd3_s, bnd4_s, bnd5_s, bndR_l, bndR_r, bndX_l, bndX_r, nq_lt, nq_le, nq_inj, nq_add, nq_mul, nq_sub, nq_div, nq_neg1, nq_clamp, nq_ne1, nq_le1, ne1_lt, n1_lt0, n1_lt, n1_ne, nz0, nz1, nz2, nz3, nz4, nz5, nz6, nz8, nz10, nz31, nz32, nz50, nz400, nz800, nz3200, nz20000, nlt_f, nlt_t, nle_f, nle_t, neq_f, neq_t, gi_si_e, gi_si_n, gp_sp_e, gp_sp_n, gr_sr_e, gr_sr_n, gi_sp, gi_sr, gp_si, gp_sr, gr_si, gr_sp, upd_e, upd_n, un_e, un_n, an_sn_e, an_sn_n, an_sm, an_sv, am_sn, am_sm_e, am_sm_n, am_sv, ai_sn, ai_sm, ai_sv_e, ai_sv_n, reduceIte, or_false, false_or, or_true, true_or, or_self, and_true, true_and, and_false, false_and, not_true_eq_false, not_false_eq_true, h7, h3.2.1 _ h6]
theorem mR.fr {τ' : St} {r n : Nat} (h : mR a r n τ) (h1 : gi τ' 2 = gi τ 2) (h2 : gr τ' 1 = gr τ 1) (h3 : gr τ' 2 = gr τ 2) (h4 : gr τ' 4 = gr τ 4) (h6 : gr τ' 6 = gr τ 6) : mR a r n τ' := by
  obtain ⟨g1, g2, g3, g4, g5⟩ := h
  refine ⟨by rw [h6]; exact g1, g2, g3.fr h1 h2 h3, g4, fun k hk => ?_⟩
  rw [h4]; exact g5 k hk
theorem kmk {r n k : Nat} (h : mR a r n τ) (hk : k < n) : ky a 0 (mk a r k) = (ai a 0 (am a r k)).toInt := by
  have := (h.2.2.2.2 k hk).1
  have := h.2.2.2.1
  unfold ky mk; rw [if_pos rfl, nq_clamp (by omega)]
theorem chA {r n : Nat} (hr : r < 4) (h : mR a r n τ) : ∀ (d : Nat) {fu k o : Nat}, n - k = d → d < fu → k ≤ n → o < k → gr τ 26 o = 0 → (∀ x, x ∈ unu (gr τ 26) (mk a r) 0 o → ky a 0 (mk a r o) < ky a 0 x) → (∀ x, x ∈ unu (gr τ 26) (mk a r) (o + 1) (k - (o + 1)) → ky a 0 (mk a r o) ≤ ky a 0 x) →
    ∃ p, p < n ∧ gr τ 26 p = 0 ∧ f_X11_isAsChosen_L40 (nI r) (nI n) τ fu (nI o) (nI k) = some (nI p) ∧ (∀ x, x ∈ unu (gr τ 26) (mk a r) 0 p → ky a 0 (mk a r p) < ky a 0 x) ∧ (∀ x, x ∈ unu (gr τ 26) (mk a r) (p + 1) (n - (p + 1)) → ky a 0 (mk a r p) ≤ ky a 0 x) := by
  have hn := h.2.1
  intro d
  induction d with
  | zero =>
    intro fu k o hd hf hk ho hu h1 h2
    obtain ⟨fu, rfl⟩ : ∃ f, fu = f + 1 := ⟨fu - 1, by omega⟩
    have e : k = n := by omega
    subst e
    exact ⟨o, ho, hu, by unfold f_X11_isAsChosen_L40; simp (disch := omega) only [↓bnd_s, ↓bnd2_s, ↓bnd3_s, ↓bnd4_s, ↓bnd5_s, ↓bndR_l, ↓bndR_r, ↓bndX_l, ↓bndX_r, bnd_s, bnd2_s, bnd3_s, bnd4_s, bnd5_s, bndR_l, bndR_r, bndX_l, bndX_r, nq_lt, nq_le, nq_inj, nq_add, nq_mul, nq_sub, nq_div, nq_neg1, nq_clamp, nq_ne1, nq_le1, ne1_lt, n1_lt0, n1_lt, n1_ne, nz0, nz1, nz2, nz3, nz4, nz5, nz6, nz8, nz10, nz31, nz32, nz50, nz400, nz800, nz3200, nz20000, nlt_f, nlt_t, nle_f, nle_t, neq_f, neq_t, gi_si_e, gi_si_n, gp_sp_e, gp_sp_n, gr_sr_e, gr_sr_n, gi_sp, gi_sr, gp_si, gp_sr, gr_si, gr_sp, upd_e, upd_n, un_e, un_n, an_sn_e, an_sn_n, an_sm, an_sv, am_sn, am_sm_e, am_sm_n, am_sv, ai_sn, ai_sm, ai_sv_e, ai_sv_n, reduceIte, or_false, false_or, or_true, true_or, or_self, and_true, true_and, and_false, false_and, not_true_eq_false, not_false_eq_true], h1, h2⟩
  | succ d ih =>
    intro fu k o hd hf hk ho hu h1 h2
    obtain ⟨fu, rfl⟩ : ∃ f, fu = f + 1 := ⟨fu - 1, by omega⟩
    have hkn : k < n := by omega
    have f1 := h.fa hr hkn
    have f2 := h.fa hr (show o < n by omega)
    have k1 := kmk h hkn
    have k2 := kmk h (show o < n by omega)
    have hsp : unu (gr τ 26) (mk a r) (o + 1) (k + 1 - (o + 1)) = unu (gr τ 26) (mk a r) (o + 1) (k - (o + 1)) ++ (if gr τ 26 k = 0 then [mk a r k] else []) := by
      have := unu_app (gr τ 26) (mk a r) (k - (o + 1)) 1 (o + 1)
      rw [show k - (o + 1) + 1 = k + 1 - (o + 1) by omega, unu_1, show o + 1 + (k - (o + 1)) = k by omega] at this
      exact this
    by_cases eu : gr τ 26 k = 0
    · rw [if_pos eu] at hsp
      by_cases e : ai a 0 (am a r o) ≤ ai a 0 (am a r k)
      · obtain ⟨p, g1, g2, g3, g4, g5⟩ := ih (fu := fu) (k := k + 1) (o := o) (by omega) (by omega) (by omega) (by omega) hu h1 (fun x hx => by
          rw [hsp] at hx
          rcases List.mem_append.mp hx with hx | hx
          · exact h2 x hx
          · rw [List.mem_singleton.mp hx, k1, k2]; exact Int32.le_iff_toInt_le.mp e)
        refine ⟨p, g1, g2, ?_, g4, g5⟩
        unfold f_X11_isAsChosen_L40
        simp (disch := omega) only [↓bnd_s, ↓bnd2_s, ↓bnd3_s, ↓bnd4_s, ↓bnd5_s, ↓bndR_l, ↓bndR_r, ↓bndX_l, ↓bndX_r, bnd_s, bnd2_s, bnd3_s, bnd4_s, bnd5_s, bndR_l, bndR_r, bndX_l, bndX_r, nq_lt, nq_le, nq_inj, nq_add, nq_mul, nq_sub, nq_div, nq_neg1, nq_clamp, nq_ne1, nq_le1, ne1_lt, n1_lt0, n1_lt, n1_ne, nz0, nz1, nz2, nz3, nz4, nz5, nz6, nz8, nz10, nz31, nz32, nz50, nz400, nz800, nz3200, nz20000, nlt_f, nlt_t, nle_f, nle_t, neq_f, neq_t, gi_si_e, gi_si_n, gp_sp_e, gp_sp_n, gr_sr_e, gr_sr_n, gi_sp, gi_sr, gp_si, gp_sr, gr_si, gr_sp, upd_e, upd_n, un_e, un_n, an_sn_e, an_sn_n, an_sm, an_sv, am_sn, am_sm_e, am_sm_n, am_sv, ai_sn, ai_sm, ai_sv_e, ai_sv_n, reduceIte, or_false, false_or, or_true, true_or, or_self, and_true, true_and, and_false, false_and, not_true_eq_false, not_false_eq_true, eu, f1, f2, e]
        exact g3
      · have e2 := Int32.lt_iff_toInt_lt.mp (Int32.not_le.mp e)
        obtain ⟨p, g1, g2, g3, g4, g5⟩ := ih (fu := fu) (k := k + 1) (o := k) (by omega) (by omega) (by omega) (by omega) eu (fun x hx => by
          rw [unu_split ho, if_pos hu] at hx
          rcases List.mem_append.mp hx with hx | hx
          · have := h1 x hx; rw [k1]; rw [k2] at this; omega
          · rcases List.mem_append.mp hx with hx | hx
            · rw [List.mem_singleton.mp hx, k1, k2]; exact e2
            · have := h2 x hx; rw [k1]; rw [k2] at this; omega) (fun x hx => by
          rw [Nat.sub_self] at hx; exact (nomatch hx))
        refine ⟨p, g1, g2, ?_, g4, g5⟩
        unfold f_X11_isAsChosen_L40
        simp (disch := omega) only [↓bnd_s, ↓bnd2_s, ↓bnd3_s, ↓bnd4_s, ↓bnd5_s, ↓bndR_l, ↓bndR_r, ↓bndX_l, ↓bndX_r, bnd_s, bnd2_s, bnd3_s, bnd4_s, bnd5_s, bndR_l, bndR_r, bndX_l, bndX_r, nq_lt, nq_le, nq_inj, nq_add, nq_mul, nq_sub, nq_div, nq_neg1, nq_clamp, nq_ne1, nq_le1, ne1_lt, n1_lt0, n1_lt, n1_ne, nz0, nz1, nz2, nz3, nz4, nz5, nz6, nz8, nz10, nz31, nz32, nz50, nz400, nz800, nz3200, nz20000, nlt_f, nlt_t, nle_f, nle_t, neq_f, neq_t, gi_si_e, gi_si_n, gp_sp_e, gp_sp_n, gr_sr_e, gr_sr_n, gi_sp, gi_sr, gp_si, gp_sr, gr_si, gr_sp, upd_e, upd_n, un_e, un_n, an_sn_e, an_sn_n, an_sm, an_sv, am_sn, am_sm_e, am_sm_n, am_sv, ai_sn, ai_sm, ai_sv_e, ai_sv_n, reduceIte, or_false, false_or, or_true, true_or, or_self, and_true, true_and, and_false, false_and, not_true_eq_false, not_false_eq_true, eu, f1, f2, e]
        exact g3
    · rw [if_neg eu, List.append_nil] at hsp
      obtain ⟨p, g1, g2, g3, g4, g5⟩ := ih (fu := fu) (k := k + 1) (o := o) (by omega) (by omega) (by omega) (by omega) hu h1 (by rw [hsp]; exact h2)
      refine ⟨p, g1, g2, ?_, g4, g5⟩
      unfold f_X11_isAsChosen_L40
      simp (disch := omega) only [↓bnd_s, ↓bnd2_s, ↓bnd3_s, ↓bnd4_s, ↓bnd5_s, ↓bndR_l, ↓bndR_r, ↓bndX_l, ↓bndX_r, bnd_s, bnd2_s, bnd3_s, bnd4_s, bnd5_s, bndR_l, bndR_r, bndX_l, bndX_r, nq_lt, nq_le, nq_inj, nq_add, nq_mul, nq_sub, nq_div, nq_neg1, nq_clamp, nq_ne1, nq_le1, ne1_lt, n1_lt0, n1_lt, n1_ne, nz0, nz1, nz2, nz3, nz4, nz5, nz6, nz8, nz10, nz31, nz32, nz50, nz400, nz800, nz3200, nz20000, nlt_f, nlt_t, nle_f, nle_t, neq_f, neq_t, gi_si_e, gi_si_n, gp_sp_e, gp_sp_n, gr_sr_e, gr_sr_n, gi_sp, gi_sr, gp_si, gp_sr, gr_si, gr_sp, upd_e, upd_n, un_e, un_n, an_sn_e, an_sn_n, an_sm, an_sv, am_sn, am_sm_e, am_sm_n, am_sv, ai_sn, ai_sm, ai_sv_e, ai_sv_n, reduceIte, or_false, false_or, or_true, true_or, or_self, and_true, true_and, and_false, false_and, not_true_eq_false, not_false_eq_true]
      rw [nz0] at eu
      simp (disch := omega) only [↓bnd_s, ↓bnd2_s, ↓bnd3_s, ↓bnd4_s, ↓bnd5_s, ↓bndR_l, ↓bndR_r, ↓bndX_l, ↓bndX_r, bnd_s, bnd2_s, bnd3_s, bnd4_s, bnd5_s, bndR_l, bndR_r, bndX_l, bndX_r, nq_lt, nq_le, nq_inj, nq_add, nq_mul, nq_sub, nq_div, nq_neg1, nq_clamp, nq_ne1, nq_le1, ne1_lt, n1_lt0, n1_lt, n1_ne, nz0, nz1, nz2, nz3, nz4, nz5, nz6, nz8, nz10, nz31, nz32, nz50, nz400, nz800, nz3200, nz20000, nlt_f, nlt_t, nle_f, nle_t, neq_f, neq_t, gi_si_e, gi_si_n, gp_sp_e, gp_sp_n, gr_sr_e, gr_sr_n, gi_sp, gi_sr, gp_si, gp_sr, gr_si, gr_sp, upd_e, upd_n, un_e, un_n, an_sn_e, an_sn_n, an_sm, an_sv, am_sn, am_sm_e, am_sm_n, am_sv, ai_sn, ai_sm, ai_sv_e, ai_sv_n, reduceIte, or_false, false_or, or_true, true_or, or_self, and_true, true_and, and_false, false_and, not_true_eq_false, not_false_eq_true, eu]
      exact g3
theorem chN {r n : Nat} (hr : r < 4) (h : mR a r n τ) (hne : unu (gr τ 26) (mk a r) 0 n ≠ []) : ∀ (d : Nat) {fu k : Nat}, n - k = d → d < fu → k ≤ n → unu (gr τ 26) (mk a r) 0 k = [] →
    ∃ p, p < n ∧ gr τ 26 p = 0 ∧ f_X11_isAsChosen_L40 (nI r) (nI n) τ fu (-nI 1) (nI k) = some (nI p) ∧ (∀ x, x ∈ unu (gr τ 26) (mk a r) 0 p → ky a 0 (mk a r p) < ky a 0 x) ∧ (∀ x, x ∈ unu (gr τ 26) (mk a r) (p + 1) (n - (p + 1)) → ky a 0 (mk a r p) ≤ ky a 0 x) := by
  have hn := h.2.1
  intro d
  induction d with
  | zero =>
    intro fu k hd hf hk h1
    have e : k = n := by omega
    subst e
    exact absurd h1 hne
  | succ d ih =>
    intro fu k hd hf hk h1
    obtain ⟨fu, rfl⟩ : ∃ f, fu = f + 1 := ⟨fu - 1, by omega⟩
    have hkn : k < n := by omega
    by_cases eu : gr τ 26 k = 0
    · obtain ⟨p, g1, g2, g3, g4, g5⟩ := chA hr h d (fu := fu) (k := k + 1) (o := k) (by omega) (by omega) (by omega) (by omega) eu (fun x hx => by rw [h1] at hx; exact (nomatch hx)) (fun x hx => by rw [Nat.sub_self] at hx; exact (nomatch hx))
      refine ⟨p, g1, g2, ?_, g4, g5⟩
      unfold f_X11_isAsChosen_L40
      simp (disch := omega) only [↓bnd_s, ↓bnd2_s, ↓bnd3_s, ↓bnd4_s, ↓bnd5_s, ↓bndR_l, ↓bndR_r, ↓bndX_l, ↓bndX_r, bnd_s, bnd2_s, bnd3_s, bnd4_s, bnd5_s, bndR_l, bndR_r, bndX_l, bndX_r, nq_lt, nq_le, nq_inj, nq_add, nq_mul, nq_sub, nq_div, nq_neg1, nq_clamp, nq_ne1, nq_le1, ne1_lt, n1_lt0, n1_lt, n1_ne, nz0, nz1, nz2, nz3, nz4, nz5, nz6, nz8, nz10, nz31, nz32, nz50, nz400, nz800, nz3200, nz20000, nlt_f, nlt_t, nle_f, nle_t, neq_f, neq_t, gi_si_e, gi_si_n, gp_sp_e, gp_sp_n, gr_sr_e, gr_sr_n, gi_sp, gi_sr, gp_si, gp_sr, gr_si, gr_sp, upd_e, upd_n, un_e, un_n, an_sn_e, an_sn_n, an_sm, an_sv, am_sn, am_sm_e, am_sm_n, am_sv, ai_sn, ai_sm, ai_sv_e, ai_sv_n, reduceIte, or_false, false_or, or_true, true_or, or_self, and_true, true_and, and_false, false_and, not_true_eq_false, not_false_eq_true, eu]
      exact g3
    · obtain ⟨p, g1, g2, g3, g4, g5⟩ := ih (fu := fu) (k := k + 1) (by omega) (by omega) (by omega) (by
        rw [unu_app _ _ k 1 0, h1, unu_1, Nat.zero_add, if_neg eu]; rfl)
      refine ⟨p, g1, g2, ?_, g4, g5⟩
      rw [nz0] at eu
      unfold f_X11_isAsChosen_L40
      simp (disch := omega) only [↓bnd_s, ↓bnd2_s, ↓bnd3_s, ↓bnd4_s, ↓bnd5_s, ↓bndR_l, ↓bndR_r, ↓bndX_l, ↓bndX_r, bnd_s, bnd2_s, bnd3_s, bnd4_s, bnd5_s, bndR_l, bndR_r, bndX_l, bndX_r, nq_lt, nq_le, nq_inj, nq_add, nq_mul, nq_sub, nq_div, nq_neg1, nq_clamp, nq_ne1, nq_le1, ne1_lt, n1_lt0, n1_lt, n1_ne, nz0, nz1, nz2, nz3, nz4, nz5, nz6, nz8, nz10, nz31, nz32, nz50, nz400, nz800, nz3200, nz20000, nlt_f, nlt_t, nle_f, nle_t, neq_f, neq_t, gi_si_e, gi_si_n, gp_sp_e, gp_sp_n, gr_sr_e, gr_sr_n, gi_sp, gi_sr, gp_si, gp_sr, gr_si, gr_sp, upd_e, upd_n, un_e, un_n, an_sn_e, an_sn_n, an_sm, an_sv, am_sn, am_sm_e, am_sm_n, am_sv, ai_sn, ai_sm, ai_sv_e, ai_sv_n, reduceIte, or_false, false_or, or_true, true_or, or_self, and_true, true_and, and_false, false_and, not_true_eq_false, not_false_eq_true, eu]
      exact g3
theorem chZ {n : Nat} (hn : n ≤ 800) : ∀ (d : Nat) {fu i : Nat} {τ : St}, n - i = d → d < fu → i ≤ n → (∀ k, k < i → gr τ 26 k = 0) →
    ∃ U, f_X11_isAsChosen_L9 (nI n) fu (nI i) τ = some (sr τ 26 U) ∧ ∀ k, k < n → U k = 0 := by
  intro d
  induction d with
  | zero =>
    intro fu i τ hd hf hi hu
    obtain ⟨fu, rfl⟩ : ∃ f, fu = f + 1 := ⟨fu - 1, by omega⟩
    have e : i = n := by omega
    subst e
    exact ⟨gr τ 26, by rw [sr_id]; unfold f_X11_isAsChosen_L9; simp (disch := omega) only [↓bnd_s, ↓bnd2_s, ↓bnd3_s, ↓bnd4_s, ↓bnd5_s, ↓bndR_l, ↓bndR_r, ↓bndX_l, ↓bndX_r, bnd_s, bnd2_s, bnd3_s, bnd4_s, bnd5_s, bndR_l, bndR_r, bndX_l, bndX_r, nq_lt, nq_le, nq_inj, nq_add, nq_mul, nq_sub, nq_div, nq_neg1, nq_clamp, nq_ne1, nq_le1, ne1_lt, n1_lt0, n1_lt, n1_ne, nz0, nz1, nz2, nz3, nz4, nz5, nz6, nz8, nz10, nz31, nz32, nz50, nz400, nz800, nz3200, nz20000, nlt_f, nlt_t, nle_f, nle_t, neq_f, neq_t, gi_si_e, gi_si_n, gp_sp_e, gp_sp_n, gr_sr_e, gr_sr_n, gi_sp, gi_sr, gp_si, gp_sr, gr_si, gr_sp, upd_e, upd_n, un_e, un_n, an_sn_e, an_sn_n, an_sm, an_sv, am_sn, am_sm_e, am_sm_n, am_sv, ai_sn, ai_sm, ai_sv_e, ai_sv_n, reduceIte, or_false, false_or, or_true, true_or, or_self, and_true, true_and, and_false, false_and, not_true_eq_false, not_false_eq_true], hu⟩
  | succ d ih =>
    intro fu i τ hd hf hi hu
    obtain ⟨fu, rfl⟩ : ∃ f, fu = f + 1 := ⟨fu - 1, by omega⟩
    obtain ⟨U, g1, g2⟩ := ih (fu := fu) (i := i + 1) (τ := sr τ 26 (upd (gr τ 26) i 0)) (by omega) (by omega) (by omega) (fun k hk => by
      rw [gr_sr_e _ _ rfl]
      by_cases e : k = i
      · rw [upd_e _ _ e]
      · rw [upd_n _ _ e]; exact hu k (by omega))
    rw [sr_sr] at g1
    refine ⟨U, ?_, g2⟩
    unfold f_X11_isAsChosen_L9
    simp (disch := omega) only [↓bnd_s, ↓bnd2_s, ↓bnd3_s, ↓bnd4_s, ↓bnd5_s, ↓bndR_l, ↓bndR_r, ↓bndX_l, ↓bndX_r, bnd_s, bnd2_s, bnd3_s, bnd4_s, bnd5_s, bndR_l, bndR_r, bndX_l, bndX_r, nq_lt, nq_le, nq_inj, nq_add, nq_mul, nq_sub, nq_div, nq_neg1, nq_clamp, nq_ne1, nq_le1, ne1_lt, n1_lt0, n1_lt, n1_ne, nz0, nz1, nz2, nz3, nz4, nz5, nz6, nz8, nz10, nz31, nz32, nz50, nz400, nz800, nz3200, nz20000, nlt_f, nlt_t, nle_f, nle_t, neq_f, neq_t, gi_si_e, gi_si_n, gp_sp_e, gp_sp_n, gr_sr_e, gr_sr_n, gi_sp, gi_sr, gp_si, gp_sr, gr_si, gr_sp, upd_e, upd_n, un_e, un_n, an_sn_e, an_sn_n, an_sm, an_sv, am_sn, am_sm_e, am_sm_n, am_sv, ai_sn, ai_sm, ai_sv_e, ai_sv_n, reduceIte, or_false, false_or, or_true, true_or, or_self, and_true, true_and, and_false, false_and, not_true_eq_false, not_false_eq_true, nar0]
    exact g1
theorem chO {r n : Nat} (hr : r < 4) : ∀ (d : Nat) {fu v : Nat} {τ : St}, mR a r n τ → n - v = d → d < fu → v ≤ n → SRT (ky a 0) (unu (gr τ 26) (mk a r) 0 n) (seg (gr τ 12) v (n - v)) →
    ∃ U, f_X11_isAsChosen_L29 (nI r) (nI n) fu (nI v) τ = some (.inr (sr τ 26 U)) := by
  intro d
  induction d with
  | zero =>
    intro fu v τ h hd hf hv hs
    have hn := h.2.1
    obtain ⟨fu, rfl⟩ : ∃ f, fu = f + 1 := ⟨fu - 1, by omega⟩
    exact ⟨gr τ 26, by rw [sr_id]; unfold f_X11_isAsChosen_L29; simp (disch := omega) only [↓bnd_s, ↓bnd2_s, ↓bnd3_s, ↓bnd4_s, ↓bnd5_s, ↓bndR_l, ↓bndR_r, ↓bndX_l, ↓bndX_r, bnd_s, bnd2_s, bnd3_s, bnd4_s, bnd5_s, bndR_l, bndR_r, bndX_l, bndX_r, nq_lt, nq_le, nq_inj, nq_add, nq_mul, nq_sub, nq_div, nq_neg1, nq_clamp, nq_ne1, nq_le1, ne1_lt, n1_lt0, n1_lt, n1_ne, nz0, nz1, nz2, nz3, nz4, nz5, nz6, nz8, nz10, nz31, nz32, nz50, nz400, nz800, nz3200, nz20000, nlt_f, nlt_t, nle_f, nle_t, neq_f, neq_t, gi_si_e, gi_si_n, gp_sp_e, gp_sp_n, gr_sr_e, gr_sr_n, gi_sp, gi_sr, gp_si, gp_sr, gr_si, gr_sp, upd_e, upd_n, un_e, un_n, an_sn_e, an_sn_n, an_sm, an_sv, am_sn, am_sm_e, am_sm_n, am_sv, ai_sn, ai_sm, ai_sv_e, ai_sv_n, reduceIte, or_false, false_or, or_true, true_or, or_self, and_true, true_and, and_false, false_and, not_true_eq_false, not_false_eq_true]⟩
  | succ d ih =>
    intro fu v τ h hd hf hv hs
    have hn := h.2.1
    obtain ⟨fu, rfl⟩ : ∃ f, fu = f + 1 := ⟨fu - 1, by omega⟩
    have hne : unu (gr τ 26) (mk a r) 0 n ≠ [] := fun e => by
      have := hs.len
      rw [e, seg_len, List.length_nil] at this
      omega
    obtain ⟨p, g1, g2, g3, g4, g5⟩ := chN hr h hne n (fu := FU) (k := 0) (by omega) (by unfold FU; omega) (by omega) rfl
    rw [unu_split g1, if_pos g2, List.singleton_append, show n - v = n - (v + 1) + 1 by omega, seg_s] at hs
    obtain ⟨e1, e2⟩ := first_least hs g4 g5
    have hM := (h.2.2.2.2 p g1).2
    have e1 : gr τ 12 v = nI (am a r p) := e1
    obtain ⟨U, k1⟩ := ih (fu := fu) (v := v + 1) (τ := sr τ 26 (upd (gr τ 26) p 1)) (h.fr rfl (by simp (disch := omega) only [gi_si_e, gi_si_n, gp_sp_e, gp_sp_n, gr_sr_e, gr_sr_n, gi_sp, gi_sr, gp_si, gp_sr, gr_si, gr_sp, upd_e, upd_n, un_e, un_n, an_sn_e, an_sn_n, an_sm, an_sv, am_sn, am_sm_e, am_sm_n, am_sv, ai_sn, ai_sm, ai_sv_e, ai_sv_n, reduceIte, or_false, false_or, or_true, true_or, or_self, and_true, true_and, and_false, false_and, not_true_eq_false, not_false_eq_true]) (by simp (disch := omega) only [gi_si_e, gi_si_n, gp_sp_e, gp_sp_n, gr_sr_e, gr_sr_n, gi_sp, gi_sr, gp_si, gp_sr, gr_si, gr_sp, upd_e, upd_n, un_e, un_n, an_sn_e, an_sn_n, an_sm, an_sv, am_sn, am_sm_e, am_sm_n, am_sv, ai_sn, ai_sm, ai_sv_e, ai_sv_n, reduceIte, or_false, false_or, or_true, true_or, or_self, and_true, true_and, and_false, false_and, not_true_eq_false, not_false_eq_true]) (by simp (disch := omega) only [gi_si_e, gi_si_n, gp_sp_e, gp_sp_n, gr_sr_e, gr_sr_n, gi_sp, gi_sr, gp_si, gp_sr, gr_si, gr_sp, upd_e, upd_n, un_e, un_n, an_sn_e, an_sn_n, an_sm, an_sv, am_sn, am_sm_e, am_sm_n, am_sv, ai_sn, ai_sm, ai_sv_e, ai_sv_n, reduceIte, or_false, false_or, or_true, true_or, or_self, and_true, true_and, and_false, false_and, not_true_eq_false, not_false_eq_true]) (by simp (disch := omega) only [gi_si_e, gi_si_n, gp_sp_e, gp_sp_n, gr_sr_e, gr_sr_n, gi_sp, gi_sr, gp_si, gp_sr, gr_si, gr_sp, upd_e, upd_n, un_e, un_n, an_sn_e, an_sn_n, an_sm, an_sv, am_sn, am_sm_e, am_sm_n, am_sv, ai_sn, ai_sm, ai_sv_e, ai_sv_n, reduceIte, or_false, false_or, or_true, true_or, or_self, and_true, true_and, and_false, false_and, not_true_eq_false, not_false_eq_true])) (by omega) (by omega) (by omega) (by
      rw [gr_sr_e _ _ rfl, gr_sr_n _ _ (by decide), unu_split g1, upd_e _ _ rfl, if_neg (by decide), List.nil_append,
        unu_congr (u := upd (gr τ 26) p 1) (u' := gr τ 26) (i := 0) (n := p) (fun k h1 h2 => upd_n _ _ (by omega)), unu_congr (u := upd (gr τ 26) p 1) (u' := gr τ 26) (i := p + 1) (fun k h1 h2 => upd_n _ _ (by omega))]
      exact e2)
    rw [sr_sr] at k1
    refine ⟨U, ?_⟩
    unfold f_X11_isAsChosen_L29
    simp (disch := omega) only [↓bnd_s, ↓bnd2_s, ↓bnd3_s, ↓bnd4_s, ↓bnd5_s, ↓bndR_l, ↓bndR_r, ↓bndX_l, ↓bndX_r, bnd_s, bnd2_s, bnd3_s, bnd4_s, bnd5_s, bndR_l, bndR_r, bndX_l, bndX_r, nq_lt, nq_le, nq_inj, nq_add, nq_mul, nq_sub, nq_div, nq_neg1, nq_clamp, nq_ne1, nq_le1, ne1_lt, n1_lt0, n1_lt, n1_ne, nz0, nz1, nz2, nz3, nz4, nz5, nz6, nz8, nz10, nz31, nz32, nz50, nz400, nz800, nz3200, nz20000, nlt_f, nlt_t, nle_f, nle_t, neq_f, neq_t, gi_si_e, gi_si_n, gp_sp_e, gp_sp_n, gr_sr_e, gr_sr_n, gi_sp, gi_sr, gp_si, gp_sr, gr_si, gr_sp, upd_e, upd_n, un_e, un_n, an_sn_e, an_sn_n, an_sm, an_sv, am_sn, am_sm_e, am_sm_n, am_sv, ai_sn, ai_sm, ai_sv_e, ai_sv_n, reduceIte, or_false, false_or, or_true, true_or, or_self, and_true, true_and, and_false, false_and, not_true_eq_false, not_false_eq_true, g3, e1, hM, nar1]
    exact k1
theorem chosen_eq {r n : Nat} (hr : r < 4) (h : mR a r n τ) (hs : seg (gr τ 12) 0 n = isrt (ky a 0) (seg (mk a r) 0 n)) : ∃ U, f_X11_isAsChosen (nI r) τ = some (nI 1, sr τ 26 U) := by
  have hn := h.2.1
  obtain ⟨U, g1, g2⟩ := chZ hn n (fu := FU) (i := 0) (τ := τ) (by omega) (by unfold FU; omega) (by omega) (fun k hk => absurd hk (Nat.not_lt_zero _))
  obtain ⟨V, k1⟩ := chO hr n (fu := FU) (v := 0) (τ := sr τ 26 U) (h.fr rfl (by simp (disch := omega) only [gi_si_e, gi_si_n, gp_sp_e, gp_sp_n, gr_sr_e, gr_sr_n, gi_sp, gi_sr, gp_si, gp_sr, gr_si, gr_sp, upd_e, upd_n, un_e, un_n, an_sn_e, an_sn_n, an_sm, an_sv, am_sn, am_sm_e, am_sm_n, am_sv, ai_sn, ai_sm, ai_sv_e, ai_sv_n, reduceIte, or_false, false_or, or_true, true_or, or_self, and_true, true_and, and_false, false_and, not_true_eq_false, not_false_eq_true]) (by simp (disch := omega) only [gi_si_e, gi_si_n, gp_sp_e, gp_sp_n, gr_sr_e, gr_sr_n, gi_sp, gi_sr, gp_si, gp_sr, gr_si, gr_sp, upd_e, upd_n, un_e, un_n, an_sn_e, an_sn_n, an_sm, an_sv, am_sn, am_sm_e, am_sm_n, am_sv, ai_sn, ai_sm, ai_sv_e, ai_sv_n, reduceIte, or_false, false_or, or_true, true_or, or_self, and_true, true_and, and_false, false_and, not_true_eq_false, not_false_eq_true]) (by simp (disch := omega) only [gi_si_e, gi_si_n, gp_sp_e, gp_sp_n, gr_sr_e, gr_sr_n, gi_sp, gi_sr, gp_si, gp_sr, gr_si, gr_sp, upd_e, upd_n, un_e, un_n, an_sn_e, an_sn_n, an_sm, an_sv, am_sn, am_sm_e, am_sm_n, am_sv, ai_sn, ai_sm, ai_sv_e, ai_sv_n, reduceIte, or_false, false_or, or_true, true_or, or_self, and_true, true_and, and_false, false_and, not_true_eq_false, not_false_eq_true]) (by simp (disch := omega) only [gi_si_e, gi_si_n, gp_sp_e, gp_sp_n, gr_sr_e, gr_sr_n, gi_sp, gi_sr, gp_si, gp_sr, gr_si, gr_sp, upd_e, upd_n, un_e, un_n, an_sn_e, an_sn_n, an_sm, an_sv, am_sn, am_sm_e, am_sm_n, am_sv, ai_sn, ai_sm, ai_sv_e, ai_sv_n, reduceIte, or_false, false_or, or_true, true_or, or_self, and_true, true_and, and_false, false_and, not_true_eq_false, not_false_eq_true])) (by omega) (by unfold FU; omega) (by omega) (by
    rw [gr_sr_e _ _ rfl, gr_sr_n _ _ (by decide), unu_all (fun k _ hk => g2 k (by omega)), Nat.sub_zero, hs]
    exact isrt_srt _ _ _ rfl)
  rw [sr_sr] at k1
  refine ⟨V, ?_⟩
  unfold f_X11_isAsChosen
  simp (disch := omega) only [↓bnd_s, ↓bnd2_s, ↓bnd3_s, ↓bnd4_s, ↓bnd5_s, ↓bndR_l, ↓bndR_r, ↓bndX_l, ↓bndX_r, bnd_s, bnd2_s, bnd3_s, bnd4_s, bnd5_s, bndR_l, bndR_r, bndX_l, bndX_r, nq_lt, nq_le, nq_inj, nq_add, nq_mul, nq_sub, nq_div, nq_neg1, nq_clamp, nq_ne1, nq_le1, ne1_lt, n1_lt0, n1_lt, n1_ne, nz0, nz1, nz2, nz3, nz4, nz5, nz6, nz8, nz10, nz31, nz32, nz50, nz400, nz800, nz3200, nz20000, nlt_f, nlt_t, nle_f, nle_t, neq_f, neq_t, gi_si_e, gi_si_n, gp_sp_e, gp_sp_n, gr_sr_e, gr_sr_n, gi_sp, gi_sr, gp_si, gp_sr, gr_si, gr_sp, upd_e, upd_n, un_e, un_n, an_sn_e, an_sn_n, an_sm, an_sv, am_sn, am_sm_e, am_sm_n, am_sv, ai_sn, ai_sm, ai_sv_e, ai_sv_n, reduceIte, or_false, false_or, or_true, true_or, or_self, and_true, true_and, and_false, false_and, not_true_eq_false, not_false_eq_true, h.1, g1, k1]
end CH
