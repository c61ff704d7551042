/-! all rows sorted together -/
def off (a : AS) : Nat → Nat
  | 0 => 0
  | r + 1 => off a r + an a (10 + r)
def AL (a : AS) : Nat → List Int32
  | 0 => []
  | r + 1 => AL a r ++ seg (mk a r) 0 (an a (10 + r))
theorem off_s (a : AS) (r : Nat) : off a (r + 1) = off a r + an a (10 + r) := rfl
theorem AL_len (a : AS) : ∀ r, (AL a r).length = off a r
  | 0 => rfl
  | r + 1 => by rw [AL, List.length_append, AL_len a r, seg_len, off_s]
theorem AL_get (a : AS) {k q : Nat} (hq : q < an a (10 + k)) : ∀ (r : Nat), k < r → (AL a r)[off a k + q]? = some (mk a k q)
  | 0, h => absurd h (Nat.not_lt_zero _)
  | r + 1, h => by
    rw [AL]
    by_cases e : k = r
    · subst e
      rw [List.getElem?_append_right (by rw [AL_len]; omega), AL_len, Nat.add_sub_cancel_left, seg_get _ _ _ _ hq, Nat.zero_add]
    · have h1 := AL_get a hq r (by omega)
      rw [List.getElem?_append_left (List.getElem?_eq_some_iff.mp h1).1]
      exact h1
section SA
variable {a : AS} {σ τ : St}
theorem off_le (hw : WA a) : ∀ {r : Nat}, r ≤ 4 → off a r ≤ 800 * r
  | 0, _ => Nat.zero_le _
  | r + 1, h => by
    have h1 := off_le hw (r := r) (by omega)
    have h2 := hw.2.2.2.2.1 r (by omega)
    rw [off_s]; omega
theorem AL_mem (hw : WA a) : ∀ {r : Nat}, r ≤ 4 → ∀ x, x ∈ AL a r → ∃ i, i < an a 0 ∧ x = nI i
  | 0, _, x, hx => (nomatch hx)
  | r + 1, h, x, hx => by
    rw [AL] at hx
    rcases List.mem_append.mp hx with hx | hx
    · exact AL_mem hw (r := r) (by omega) x hx
    · obtain ⟨k, hk, ek⟩ := seg_mem hx
      rw [Nat.zero_add] at ek
      exact ⟨_, hw.2.2.2.2.2.2.1 r k (by omega) hk, ek⟩
theorem takeAll_L (h : REL a σ τ) {m m' : Nat} (hS : SO σ m m') : ∀ (d : Nat) {fu r : Nat}, 4 - r = d → d < fu → r ≤ 4 →
    f_X10_sortAll_L9 fu (nI r) (si (sr σ m (wr (gr σ m) 0 (AL a r))) 59 (nI (off a r))) = some (si (sr σ m (wr (gr σ m) 0 (AL a 4))) 59 (nI (off a 4))) := by
  have h89 := hS.2.2
  intro d
  induction d with
  | zero =>
    intro fu r hd hf hr
    obtain ⟨fu, rfl⟩ : ∃ f, fu = f + 1 := ⟨fu - 1, by omega⟩
    have e : r = 4 := by omega
    subst e
    unfold f_X10_sortAll_L9; simp (disch := omega) only [↓bnd_s, ↓bnd2_s, ↓bnd3_s, ↓bnd4_s, ↓bnd5_s, ↓bndR_l, ↓bndR_r, ↓bndX_l, ↓bndX_r, bnd_s, bnd2_s, bnd3_s, bnd4_s, bnd5_s, bndR_l, bndR_r, bndX_l, bndX_r, nq_lt, nq_le, nq_inj, nq_add, nq_mul, nq_sub, nq_div, nq_neg1, nq_clamp, nq_ne1, nq_le1, ne1_lt, n1_lt0, n1_lt, n1_ne, nz0, nz1, nz2, nz3, nz4, nz5, nz6, nz8, nz10, nz31, nz32, nz50, nz400, nz800, nz3200, nz20000, nlt_f, nlt_t, nle_f, nle_t, neq_f, neq_t, gi_si_e, gi_si_n, gp_sp_e, gp_sp_n, gr_sr_e, gr_sr_n, gi_sp, gi_sr, gp_si, gp_sr, gr_si, gr_sp, upd_e, upd_n, un_e, un_n, an_sn_e, an_sn_n, an_sm, an_sv, am_sn, am_sm_e, am_sm_n, am_sv, ai_sn, ai_sm, ai_sv_e, ai_sv_n, reduceIte, or_false, false_or, or_true, true_or, or_self, and_true, true_and, and_false, false_and, not_true_eq_false, not_false_eq_true]
  | succ d ih =>
    intro fu r hd hf hr
    obtain ⟨fu, rfl⟩ : ∃ f, fu = f + 1 := ⟨fu - 1, by omega⟩
    have hr4 : r < 4 := by omega
    have hn := h.n hr4
    have ho := off_le h.wa (r := r) (by omega)
    have this := ih (fu := fu) (r := r + 1) (by omega) (by omega) (by omega)
    have eg : gi (si (sr σ m (wr (gr σ m) 0 (AL a r))) 59 (nI (off a r))) (8 * (16 + r) + 1) = nI (an a (10 + r)) := by
      rw [gi_si_n _ _ (by omega), gi_sr, h.cn hr4]
    have t1 := take_eq (j := 16 + r) (p := 0) (e := an a (10 + r)) (by omega) hn (by omega) (s := off a r) (σ := si (sr σ m (wr (gr σ m) 0 (AL a r))) 59 (nI (off a r))) (m := m) (m' := m') ⟨hS.1, hS.2.1, h89⟩ (gi_si_e _ _ rfl) (by omega)
    rw [sr_si, si_si, sr_sr, gr_si, gr_si, gr_sr_e _ _ rfl, gr_sr_n _ _ (show 16 + r + 16 ≠ m by omega), Nat.sub_zero, seg_congr (f := gr σ (16 + r + 16)) (g := mk a r) (j := 0) (fun k hk => by rw [Nat.zero_add]; exact h.cmk hr4 hk)] at t1
    have w := wr_app (gr σ m) 0 (seg (mk a r) 0 (an a (10 + r))) (AL a r)
    rw [AL_len, Nat.zero_add] at w
    rw [w] at t1
    unfold f_X10_sortAll_L9
    simp (disch := omega) only [↓bnd_s, ↓bnd2_s, ↓bnd3_s, ↓bnd4_s, ↓bnd5_s, ↓bndR_l, ↓bndR_r, ↓bndX_l, ↓bndX_r, bnd_s, bnd2_s, bnd3_s, bnd4_s, bnd5_s, bndR_l, bndR_r, bndX_l, bndX_r, nq_lt, nq_le, nq_inj, nq_add, nq_mul, nq_sub, nq_div, nq_neg1, nq_clamp, nq_ne1, nq_le1, ne1_lt, n1_lt0, n1_lt, n1_ne, nz0, nz1, nz2, nz3, nz4, nz5, nz6, nz8, nz10, nz31, nz32, nz50, nz400, nz800, nz3200, nz20000, nlt_f, nlt_t, nle_f, nle_t, neq_f, neq_t, gi_si_e, gi_si_n, gp_sp_e, gp_sp_n, gr_sr_e, gr_sr_n, gi_sp, gi_sr, gp_si, gp_sr, gr_si, gr_sp, upd_e, upd_n, un_e, un_n, an_sn_e, an_sn_n, an_sm, an_sv, am_sn, am_sm_e, am_sm_n, am_sv, ai_sn, ai_sm, ai_sv_e, ai_sv_n, reduceIte, or_false, false_or, or_true, true_or, or_self, and_true, true_and, and_false, false_and, not_true_eq_false, not_false_eq_true, eg, t1]
    exact this
theorem cpr_L (h : REL a σ τ) {r s : Nat} (hr : r < 4) (hs : s + an a (10 + r) ≤ 3200) {τ0 : St} (h6 : gr τ0 6 = gr τ 6) (h4 : gr τ0 4 = gr τ 4) : ∀ (d : Nat) {fu i : Nat}, an a (10 + r) - i = d → d < fu → i ≤ an a (10 + r) →
    f_X11_sortAll_L11 (nI r) fu (nI (s + i)) (nI i) (sr τ0 12 (wr (gr τ0 12) s (seg (mk a r) 0 i))) = some (nI (s + an a (10 + r)), sr τ0 12 (wr (gr τ0 12) s (seg (mk a r) 0 (an a (10 + r))))) := by
  have hn := h.n hr
  intro d
  induction d with
  | zero =>
    intro fu i hd hf hi
    obtain ⟨fu, rfl⟩ : ∃ f, fu = f + 1 := ⟨fu - 1, by omega⟩
    have e : i = an a (10 + r) := by omega
    subst e
    unfold f_X11_sortAll_L11; simp (disch := omega) only [↓bnd_s, ↓bnd2_s, ↓bnd3_s, ↓bnd4_s, ↓bnd5_s, ↓bndR_l, ↓bndR_r, ↓bndX_l, ↓bndX_r, bnd_s, bnd2_s, bnd3_s, bnd4_s, bnd5_s, bndR_l, bndR_r, bndX_l, bndX_r, nq_lt, nq_le, nq_inj, nq_add, nq_mul, nq_sub, nq_div, nq_neg1, nq_clamp, nq_ne1, nq_le1, ne1_lt, n1_lt0, n1_lt, n1_ne, nz0, nz1, nz2, nz3, nz4, nz5, nz6, nz8, nz10, nz31, nz32, nz50, nz400, nz800, nz3200, nz20000, nlt_f, nlt_t, nle_f, nle_t, neq_f, neq_t, gi_si_e, gi_si_n, gp_sp_e, gp_sp_n, gr_sr_e, gr_sr_n, gi_sp, gi_sr, gp_si, gp_sr, gr_si, gr_sp, upd_e, upd_n, un_e, un_n, an_sn_e, an_sn_n, an_sm, an_sv, am_sn, am_sm_e, am_sm_n, am_sv, ai_sn, ai_sm, ai_sv_e, ai_sv_n, reduceIte, or_false, false_or, or_true, true_or, or_self, and_true, true_and, and_false, false_and, not_true_eq_false, not_false_eq_true, h6, h.mn hr]
  | succ d ih =>
    intro fu i hd hf hi
    obtain ⟨fu, rfl⟩ : ∃ f, fu = f + 1 := ⟨fu - 1, by omega⟩
    have := ih (fu := fu) (i := i + 1) (by omega) (by omega) (by omega)
    rw [← wr_seg_s, show s + (i + 1) = s + i + 1 by omega, Nat.zero_add, show mk a r i = nI (am a r i) from rfl] at this
    unfold f_X11_sortAll_L11
    simp (disch := omega) only [↓bnd_s, ↓bnd2_s, ↓bnd3_s, ↓bnd4_s, ↓bnd5_s, ↓bndR_l, ↓bndR_r, ↓bndX_l, ↓bndX_r, bnd_s, bnd2_s, bnd3_s, bnd4_s, bnd5_s, bndR_l, bndR_r, bndX_l, bndX_r, nq_lt, nq_le, nq_inj, nq_add, nq_mul, nq_sub, nq_div, nq_neg1, nq_clamp, nq_ne1, nq_le1, ne1_lt, n1_lt0, n1_lt, n1_ne, nz0, nz1, nz2, nz3, nz4, nz5, nz6, nz8, nz10, nz31, nz32, nz50, nz400, nz800, nz3200, nz20000, nlt_f, nlt_t, nle_f, nle_t, neq_f, neq_t, gi_si_e, gi_si_n, gp_sp_e, gp_sp_n, gr_sr_e, gr_sr_n, gi_sp, gi_sr, gp_si, gp_sr, gr_si, gr_sp, upd_e, upd_n, un_e, un_n, an_sn_e, an_sn_n, an_sm, an_sv, am_sn, am_sm_e, am_sm_n, am_sv, ai_sn, ai_sm, ai_sv_e, ai_sv_n, reduceIte, or_false, false_or, or_true, true_or, or_self, and_true, true_and, and_false, false_and, not_true_eq_false, not_false_eq_true, h6, h4, h.mn hr, sr_sr, h.mmk hr (show i < an a (10 + r) by omega)]
    exact this
theorem cpAll_L (h : REL a σ τ) : ∀ (d : Nat) {fu r : Nat}, 4 - r = d → d < fu → r ≤ 4 →
    f_X11_sortAll_L4 fu (nI (off a r)) (nI r) (sr τ 12 (wr (gr τ 12) 0 (AL a r))) = some (nI (off a 4), sr τ 12 (wr (gr τ 12) 0 (AL a 4))) := by
  intro d
  induction d with
  | zero =>
    intro fu r hd hf hr
    obtain ⟨fu, rfl⟩ : ∃ f, fu = f + 1 := ⟨fu - 1, by omega⟩
    have e : r = 4 := by omega
    subst e
    unfold f_X11_sortAll_L4; simp (disch := omega) only [↓bnd_s, ↓bnd2_s, ↓bnd3_s, ↓bnd4_s, ↓bnd5_s, ↓bndR_l, ↓bndR_r, ↓bndX_l, ↓bndX_r, bnd_s, bnd2_s, bnd3_s, bnd4_s, bnd5_s, bndR_l, bndR_r, bndX_l, bndX_r, nq_lt, nq_le, nq_inj, nq_add, nq_mul, nq_sub, nq_div, nq_neg1, nq_clamp, nq_ne1, nq_le1, ne1_lt, n1_lt0, n1_lt, n1_ne, nz0, nz1, nz2, nz3, nz4, nz5, nz6, nz8, nz10, nz31, nz32, nz50, nz400, nz800, nz3200, nz20000, nlt_f, nlt_t, nle_f, nle_t, neq_f, neq_t, gi_si_e, gi_si_n, gp_sp_e, gp_sp_n, gr_sr_e, gr_sr_n, gi_sp, gi_sr, gp_si, gp_sr, gr_si, gr_sp, upd_e, upd_n, un_e, un_n, an_sn_e, an_sn_n, an_sm, an_sv, am_sn, am_sm_e, am_sm_n, am_sv, ai_sn, ai_sm, ai_sv_e, ai_sv_n, reduceIte, or_false, false_or, or_true, true_or, or_self, and_true, true_and, and_false, false_and, not_true_eq_false, not_false_eq_true]
  | succ d ih =>
    intro fu r hd hf hr
    obtain ⟨fu, rfl⟩ : ∃ f, fu = f + 1 := ⟨fu - 1, by omega⟩
    have hr4 : r < 4 := by omega
    have hn := h.n hr4
    have ho := off_le h.wa (r := r) (by omega)
    have this := ih (fu := fu) (r := r + 1) (by omega) (by omega) (by omega)
    have c := cpr_L h hr4 (s := off a r) (by omega) (τ0 := sr τ 12 (wr (gr τ 12) 0 (AL a r))) (by simp (disch := omega) only [gi_si_e, gi_si_n, gp_sp_e, gp_sp_n, gr_sr_e, gr_sr_n, gi_sp, gi_sr, gp_si, gp_sr, gr_si, gr_sp, upd_e, upd_n, un_e, un_n, an_sn_e, an_sn_n, an_sm, an_sv, am_sn, am_sm_e, am_sm_n, am_sv, ai_sn, ai_sm, ai_sv_e, ai_sv_n, reduceIte, or_false, false_or, or_true, true_or, or_self, and_true, true_and, and_false, false_and, not_true_eq_false, not_false_eq_true]) (by simp (disch := omega) only [gi_si_e, gi_si_n, gp_sp_e, gp_sp_n, gr_sr_e, gr_sr_n, gi_sp, gi_sr, gp_si, gp_sr, gr_si, gr_sp, upd_e, upd_n, un_e, un_n, an_sn_e, an_sn_n, an_sm, an_sv, am_sn, am_sm_e, am_sm_n, am_sv, ai_sn, ai_sm, ai_sv_e, ai_sv_n, reduceIte, or_false, false_or, or_true, true_or, or_self, and_true, true_and, and_false, false_and, not_true_eq_false, not_false_eq_true]) _ (fu := FU) (i := 0) rfl (by unfold FU; omega) (by omega)
    have w := wr_app (gr τ 12) 0 (seg (mk a r) 0 (an a (10 + r))) (AL a r)
    rw [AL_len, Nat.zero_add] at w
    rw [gr_sr_e _ _ rfl, seg_0, wr_nil, sr_sr, sr_sr, w, Nat.add_zero (off a r)] at c
    unfold f_X11_sortAll_L4
    simp (disch := omega) only [↓bnd_s, ↓bnd2_s, ↓bnd3_s, ↓bnd4_s, ↓bnd5_s, ↓bndR_l, ↓bndR_r, ↓bndX_l, ↓bndX_r, bnd_s, bnd2_s, bnd3_s, bnd4_s, bnd5_s, bndR_l, bndR_r, bndX_l, bndX_r, nq_lt, nq_le, nq_inj, nq_add, nq_mul, nq_sub, nq_div, nq_neg1, nq_clamp, nq_ne1, nq_le1, ne1_lt, n1_lt0, n1_lt, n1_ne, nz0, nz1, nz2, nz3, nz4, nz5, nz6, nz8, nz10, nz31, nz32, nz50, nz400, nz800, nz3200, nz20000, nlt_f, nlt_t, nle_f, nle_t, neq_f, neq_t, gi_si_e, gi_si_n, gp_sp_e, gp_sp_n, gr_sr_e, gr_sr_n, gi_sp, gi_sr, gp_si, gp_sr, gr_si, gr_sp, upd_e, upd_n, un_e, un_n, an_sn_e, an_sn_n, an_sm, an_sv, am_sn, am_sm_e, am_sm_n, am_sv, ai_sn, ai_sm, ai_sv_e, ai_sv_n, reduceIte, or_false, false_or, or_true, true_or, or_self, and_true, true_and, and_false, false_and, not_true_eq_false, not_false_eq_true, c]
    exact this
theorem bkr_L {r s n : Nat} (hr : r < 4) (hn : n ≤ 800) (hs : s + n ≤ 3200) {τ : St} (h6 : gr τ 6 r = nI n) : ∀ (d : Nat) {fu i : Nat}, n - i = d → d < fu → i ≤ n →
    f_X11_sortAll_L73 (nI r) fu (nI (s + i)) (nI i) (sr τ 4 (wr (gr τ 4) (800 * r) (seg (gr τ 12) s i))) = some (nI (s + n), sr τ 4 (wr (gr τ 4) (800 * r) (seg (gr τ 12) s n))) := by
  intro d
  induction d with
  | zero =>
    intro fu i hd hf hi
    obtain ⟨fu, rfl⟩ : ∃ f, fu = f + 1 := ⟨fu - 1, by omega⟩
    have e : i = n := by omega
    subst e
    unfold f_X11_sortAll_L73; simp (disch := omega) only [↓bnd_s, ↓bnd2_s, ↓bnd3_s, ↓bnd4_s, ↓bnd5_s, ↓bndR_l, ↓bndR_r, ↓bndX_l, ↓bndX_r, bnd_s, bnd2_s, bnd3_s, bnd4_s, bnd5_s, bndR_l, bndR_r, bndX_l, bndX_r, nq_lt, nq_le, nq_inj, nq_add, nq_mul, nq_sub, nq_div, nq_neg1, nq_clamp, nq_ne1, nq_le1, ne1_lt, n1_lt0, n1_lt, n1_ne, nz0, nz1, nz2, nz3, nz4, nz5, nz6, nz8, nz10, nz31, nz32, nz50, nz400, nz800, nz3200, nz20000, nlt_f, nlt_t, nle_f, nle_t, neq_f, neq_t, gi_si_e, gi_si_n, gp_sp_e, gp_sp_n, gr_sr_e, gr_sr_n, gi_sp, gi_sr, gp_si, gp_sr, gr_si, gr_sp, upd_e, upd_n, un_e, un_n, an_sn_e, an_sn_n, an_sm, an_sv, am_sn, am_sm_e, am_sm_n, am_sv, ai_sn, ai_sm, ai_sv_e, ai_sv_n, reduceIte, or_false, false_or, or_true, true_or, or_self, and_true, true_and, and_false, false_and, not_true_eq_false, not_false_eq_true, h6]
  | succ d ih =>
    intro fu i hd hf hi
    obtain ⟨fu, rfl⟩ : ∃ f, fu = f + 1 := ⟨fu - 1, by omega⟩
    have := ih (fu := fu) (i := i + 1) (by omega) (by omega) (by omega)
    rw [← wr_seg_s, show s + (i + 1) = s + i + 1 by omega] at this
    unfold f_X11_sortAll_L73
    simp (disch := omega) only [↓bnd_s, ↓bnd2_s, ↓bnd3_s, ↓bnd4_s, ↓bnd5_s, ↓bndR_l, ↓bndR_r, ↓bndX_l, ↓bndX_r, bnd_s, bnd2_s, bnd3_s, bnd4_s, bnd5_s, bndR_l, bndR_r, bndX_l, bndX_r, nq_lt, nq_le, nq_inj, nq_add, nq_mul, nq_sub, nq_div, nq_neg1, nq_clamp, nq_ne1, nq_le1, ne1_lt, n1_lt0, n1_lt, n1_ne, nz0, nz1, nz2, nz3, nz4, nz5, nz6, nz8, nz10, nz31, nz32, nz50, nz400, nz800, nz3200, nz20000, nlt_f, nlt_t, nle_f, nle_t, neq_f, neq_t, gi_si_e, gi_si_n, gp_sp_e, gp_sp_n, gr_sr_e, gr_sr_n, gi_sp, gi_sr, gp_si, gp_sr, gr_si, gr_sp, upd_e, upd_n, un_e, un_n, an_sn_e, an_sn_n, an_sm, an_sv, am_sn, am_sm_e, am_sm_n, am_sv, ai_sn, ai_sm, ai_sv_e, ai_sv_n, reduceIte, or_false, false_or, or_true, true_or, or_self, and_true, true_and, and_false, false_and, not_true_eq_false, not_false_eq_true, h6, sr_sr]
    exact this
/-- the rows from r on are laid back in both programs -/
theorem layAll (T W B : Nat → Int32) (a0 : AS) (hw : WA a0) (hT : ∀ q, q < off a0 4 → ∃ i, i < an a0 0 ∧ T q = nI i ∧ W q = nI i) (hB : ∀ r q, r < 4 → q < an a0 (10 + r) → B (off a0 r + q) = mk a0 r q) : ∀ (d : Nat) {fu r : Nat} {a : AS} {σ τ : St} {M M' : Nat}, 4 - r = d → d < fu → r ≤ 4 → REL a σ τ → an a 0 = an a0 0 → (∀ k, k < 4 → an a (10 + k) = an a0 (10 + k)) → (∀ k q, r ≤ k → k < 4 → q < an a0 (10 + k) → am a k q = am a0 k q) → SO σ M M' → gi σ 59 = nI (off a0 4) → gr σ M = T → gr τ 12 = W →
    ∃ σ' τ' a', f_X10_sortAll_L60 fu (nI (dif B T (off a0 r))) (nI (off a0 r)) (nI r) σ = some (nI (dif B T (off a0 4)), σ') ∧ f_X11_sortAll_L65 fu (nI (off a0 r)) (nI r) τ = some τ' ∧ REL a' σ' τ' := by
  intro d
  induction d with
  | zero =>
    intro fu r a σ τ M M' hd hf hr h hm hk hu hS hg9 hgT hgW
    obtain ⟨fu, rfl⟩ : ∃ f, fu = f + 1 := ⟨fu - 1, by omega⟩
    have e : r = 4 := by omega
    subst e
    exact ⟨σ, τ, a, by unfold f_X10_sortAll_L60; simp (disch := omega) only [↓bnd_s, ↓bnd2_s, ↓bnd3_s, ↓bnd4_s, ↓bnd5_s, ↓bndR_l, ↓bndR_r, ↓bndX_l, ↓bndX_r, bnd_s, bnd2_s, bnd3_s, bnd4_s, bnd5_s, bndR_l, bndR_r, bndX_l, bndX_r, nq_lt, nq_le, nq_inj, nq_add, nq_mul, nq_sub, nq_div, nq_neg1, nq_clamp, nq_ne1, nq_le1, ne1_lt, n1_lt0, n1_lt, n1_ne, nz0, nz1, nz2, nz3, nz4, nz5, nz6, nz8, nz10, nz31, nz32, nz50, nz400, nz800, nz3200, nz20000, nlt_f, nlt_t, nle_f, nle_t, neq_f, neq_t, gi_si_e, gi_si_n, gp_sp_e, gp_sp_n, gr_sr_e, gr_sr_n, gi_sp, gi_sr, gp_si, gp_sr, gr_si, gr_sp, upd_e, upd_n, un_e, un_n, an_sn_e, an_sn_n, an_sm, an_sv, am_sn, am_sm_e, am_sm_n, am_sv, ai_sn, ai_sm, ai_sv_e, ai_sv_n, reduceIte, or_false, false_or, or_true, true_or, or_self, and_true, true_and, and_false, false_and, not_true_eq_false, not_false_eq_true], by unfold f_X11_sortAll_L65; simp (disch := omega) only [↓bnd_s, ↓bnd2_s, ↓bnd3_s, ↓bnd4_s, ↓bnd5_s, ↓bndR_l, ↓bndR_r, ↓bndX_l, ↓bndX_r, bnd_s, bnd2_s, bnd3_s, bnd4_s, bnd5_s, bndR_l, bndR_r, bndX_l, bndX_r, nq_lt, nq_le, nq_inj, nq_add, nq_mul, nq_sub, nq_div, nq_neg1, nq_clamp, nq_ne1, nq_le1, ne1_lt, n1_lt0, n1_lt, n1_ne, nz0, nz1, nz2, nz3, nz4, nz5, nz6, nz8, nz10, nz31, nz32, nz50, nz400, nz800, nz3200, nz20000, nlt_f, nlt_t, nle_f, nle_t, neq_f, neq_t, gi_si_e, gi_si_n, gp_sp_e, gp_sp_n, gr_sr_e, gr_sr_n, gi_sp, gi_sr, gp_si, gp_sr, gr_si, gr_sp, upd_e, upd_n, un_e, un_n, an_sn_e, an_sn_n, an_sm, an_sv, am_sn, am_sm_e, am_sm_n, am_sv, ai_sn, ai_sm, ai_sv_e, ai_sv_n, reduceIte, or_false, false_or, or_true, true_or, or_self, and_true, true_and, and_false, false_and, not_true_eq_false, not_false_eq_true], h⟩
  | succ d ih =>
    intro fu r a σ τ M M' hd hf hr h hm hk hu hS hg9 hgT hgW
    obtain ⟨fu, rfl⟩ : ∃ f, fu = f + 1 := ⟨fu - 1, by omega⟩
    have h89 := hS.2.2
    have hr4 : r < 4 := by omega
    have hn := h.n hr4
    have ho := off_le hw (r := r) (by omega)
    have hkr := hk r hr4
    obtain ⟨n, hne⟩ : ∃ n, n = an a0 (10 + r) := ⟨_, rfl⟩
    rw [← hne] at hkr
    have hlt4 : ∀ q, q < n → off a0 r + q < off a0 4 := fun q hq => by
      have e1 : ∀ u, off a0 r + n ≤ off a0 (r + 1 + u) := fun u => by
        induction u with
        | zero => rw [Nat.add_zero, off_s]; omega
        | succ u ihu => rw [← Nat.add_assoc, off_s]; omega
      have := e1 (4 - (r + 1))
      rw [show r + 1 + (4 - (r + 1)) = 4 by omega] at this
      omega
    have hm0 := hw.1
    have ho4 := off_le hw (r := 4) (by omega)
    have hon : off a0 r + n ≤ off a0 4 := by
      match n, hlt4 with
      | 0, _ =>
        have e1 : ∀ u, off a0 r ≤ off a0 (r + u) := fun u => by
          induction u with
          | zero => exact Nat.le_refl _
          | succ u ihu => rw [← Nat.add_assoc, off_s]; omega
        have := e1 (4 - r)
        rw [show r + (4 - r) = 4 by omega] at this
        omega
      | n + 1, hl => have := hl n (by omega); omega
    have lc := lay_eq (j := 16 + r) (s0 := off a0 r) (fr := 0) (to := n) hS hg9 (by omega) (by omega) (by omega) (by omega) (by omega)
    rw [Nat.sub_zero, hgT] at lc
    have lm := bkr_L hr4 (n := n) (s := off a0 r) (by omega) (by omega) (τ := τ) (by rw [h.mn hr4, hkr]) _ (fu := FU) (i := 0) rfl (by unfold FU; omega) (by omega)
    rw [seg_0, wr_nil, sr_id, Nat.add_zero (off a0 r), hgW] at lm
    have hTW : ∀ q, q < n → W (off a0 r + q) = T (off a0 r + q) := fun q hq => by
      obtain ⟨i, _, e1, e2⟩ := hT _ (hlt4 q hq)
      rw [e1, e2]
    have hcl : ∀ q, q < n → (T (off a0 r + q)).toNatClampNeg < an a 0 ∧ T (off a0 r + q) = nI (T (off a0 r + q)).toNatClampNeg := fun q hq => by
      obtain ⟨i, hi, e1, _⟩ := hT _ (hlt4 q hq)
      rw [e1, nq_clamp (by omega)]; exact ⟨by omega, rfl⟩
    have hF : ∀ q, q < n → wr (gr σ (16 + r + 16)) 0 (seg T (off a0 r) n) q = T (off a0 r + q) := fun q hq => by
      have := wr_at (gr σ (16 + r + 16)) T 0 (off a0 r) n q hq
      rw [Nat.zero_add] at this
      exact this
    have hR := h.row (r := r) (v := n) hr4 (by omega) (f := fun k => (T (off a0 r + k)).toNatClampNeg) (F := wr (gr σ (16 + r + 16)) 0 (seg T (off a0 r) n)) (G := wr (gr τ 4) (800 * r) (seg W (off a0 r) n))
      (fun k hk => (hcl k hk).1) (fun k hk => by rw [hF k hk]; exact (hcl k hk).2) (fun k hk => by rw [wr_at _ _ _ _ _ _ hk, hTW k hk]; exact (hcl k hk).2) (fun r' k h1 h2 h3 => wr_out _ (by rw [seg_len]; omega))
    rw [si_id (σ := sr σ (16 + r + 16) (wr (gr σ (16 + r + 16)) 0 (seg T (off a0 r) n))) (k := 8 * (16 + r) + 1) (v := nI n) (by rw [gi_sr, h.cn hr4, hkr]), upd_id (show gr τ 6 r = nI n by rw [h.mn hr4, hkr]),
      show sr (sr τ 4 (wr (gr τ 4) (800 * r) (seg W (off a0 r) n))) 6 (gr τ 6) = sr τ 4 (wr (gr τ 4) (800 * r) (seg W (off a0 r) n)) by
        have := sr_id (sr τ 4 (wr (gr τ 4) (800 * r) (seg W (off a0 r) n))) 6
        rw [gr_sr_n _ _ (show (6 : Nat) ≠ 4 by decide)] at this
        exact this] at hR
    obtain ⟨σ', τ', a', k1, k2, k3⟩ := ih (fu := fu) (r := r + 1) (M := M) (M' := M') (by omega) (by omega) (by omega) hR (by simp (disch := omega) only [gi_si_e, gi_si_n, gp_sp_e, gp_sp_n, gr_sr_e, gr_sr_n, gi_sp, gi_sr, gp_si, gp_sr, gr_si, gr_sp, upd_e, upd_n, un_e, un_n, an_sn_e, an_sn_n, an_sm, an_sv, am_sn, am_sm_e, am_sm_n, am_sv, ai_sn, ai_sm, ai_sv_e, ai_sv_n, reduceIte, or_false, false_or, or_true, true_or, or_self, and_true, true_and, and_false, false_and, not_true_eq_false, not_false_eq_true]; exact hm)
      (fun k h4 => by
        by_cases e : k = r
        · rw [an_sn_e _ _ (by omega), e, hne]
        · rw [an_sn_n _ _ (by omega), an_sm]; exact hk k h4)
      (fun k q h1 h2 h3 => by rw [am_sn, am_sm_n _ _ (by omega)]; exact hu k q (by omega) h2 h3)
      ⟨hS.1, hS.2.1, h89⟩ (by rw [gi_sr]; exact hg9) (by rw [gr_sr_n _ _ (by omega)]; exact hgT) (by rw [gr_sr_n _ _ (by decide)]; exact hgW)
    rw [off_s, ← hne, dif_add, dif_congr (f' := fun k => gr σ (16 + r + 16) (0 + k)) (g' := fun k => T (off a0 r + k)) (fun q hq => by
      rw [hB r q hr4 (by omega), Nat.zero_add, h.cmk hr4 (by omega), hu r q (Nat.le_refl _) hr4 (by omega)]; rfl) (fun _ _ => rfl)] at k1
    rw [off_s, ← hne] at k2
    refine ⟨σ', τ', a', ?_, ?_, k3⟩
    · have eg : gi (sr σ (16 + r + 16) (wr (gr σ (16 + r + 16)) 0 (seg T (off a0 r) n))) (8 * (16 + r) + 1) = nI n := by rw [gi_sr, h.cn hr4, hkr]
      unfold f_X10_sortAll_L60
      simp (disch := omega) only [↓bnd_s, ↓bnd2_s, ↓bnd3_s, ↓bnd4_s, ↓bnd5_s, ↓bndR_l, ↓bndR_r, ↓bndX_l, ↓bndX_r, bnd_s, bnd2_s, bnd3_s, bnd4_s, bnd5_s, bndR_l, bndR_r, bndX_l, bndX_r, nq_lt, nq_le, nq_inj, nq_add, nq_mul, nq_sub, nq_div, nq_neg1, nq_clamp, nq_ne1, nq_le1, ne1_lt, n1_lt0, n1_lt, n1_ne, nz0, nz1, nz2, nz3, nz4, nz5, nz6, nz8, nz10, nz31, nz32, nz50, nz400, nz800, nz3200, nz20000, nlt_f, nlt_t, nle_f, nle_t, neq_f, neq_t, gi_si_e, gi_si_n, gp_sp_e, gp_sp_n, gr_sr_e, gr_sr_n, gi_sp, gi_sr, gp_si, gp_sr, gr_si, gr_sp, upd_e, upd_n, un_e, un_n, an_sn_e, an_sn_n, an_sm, an_sv, am_sn, am_sm_e, am_sm_n, am_sv, ai_sn, ai_sm, ai_sv_e, ai_sv_n, reduceIte, or_false, false_or, or_true, true_or, or_self, and_true, true_and, and_false, false_and, not_true_eq_false, not_false_eq_true, h.cn hr4, hkr, lc, eg]
      exact k1
    · unfold f_X11_sortAll_L65
      simp (disch := omega) only [↓bnd_s, ↓bnd2_s, ↓bnd3_s, ↓bnd4_s, ↓bnd5_s, ↓bndR_l, ↓bndR_r, ↓bndX_l, ↓bndX_r, bnd_s, bnd2_s, bnd3_s, bnd4_s, bnd5_s, bndR_l, bndR_r, bndX_l, bndX_r, nq_lt, nq_le, nq_inj, nq_add, nq_mul, nq_sub, nq_div, nq_neg1, nq_clamp, nq_ne1, nq_le1, ne1_lt, n1_lt0, n1_lt, n1_ne, nz0, nz1, nz2, nz3, nz4, nz5, nz6, nz8, nz10, nz31, nz32, nz50, nz400, nz800, nz3200, nz20000, nlt_f, nlt_t, nle_f, nle_t, neq_f, neq_t, gi_si_e, gi_si_n, gp_sp_e, gp_sp_n, gr_sr_e, gr_sr_n, gi_sp, gi_sr, gp_si, gp_sr, gr_si, gr_sp, upd_e, upd_n, un_e, un_n, an_sn_e, an_sn_n, an_sm, an_sv, am_sn, am_sm_e, am_sm_n, am_sv, ai_sn, ai_sm, ai_sv_e, ai_sv_n, reduceIte, or_false, false_or, or_true, true_or, or_self, and_true, true_and, and_false, false_and, not_true_eq_false, not_false_eq_true, lm]
      exact k2
theorem P_sortAll (h : REL a σ τ) : AN (f_X10_sortAll σ) (f_X11_sortAll τ) := by
  have hm := h.m
  obtain ⟨m, m', hS⟩ := h.SO
  have h89 := hS.2.2
  have hN := off_le h.wa (r := 4) (by omega)
  obtain ⟨N, hNe⟩ : ∃ n, n = off a 4 := ⟨_, rfl⟩
  rw [← hNe] at hN
  -- the class's table
  have hR1 : REL a (si σ 59 (nI 0)) τ := h.ir ⟨by simp (disch := omega) only [gi_si_e, gi_si_n, gp_sp_e, gp_sp_n, gr_sr_e, gr_sr_n, gi_sp, gi_sr, gp_si, gp_sr, gr_si, gr_sp, upd_e, upd_n, un_e, un_n, an_sn_e, an_sn_n, an_sm, an_sv, am_sn, am_sm_e, am_sm_n, am_sv, ai_sn, ai_sm, ai_sv_e, ai_sv_n, reduceIte, or_false, false_or, or_true, true_or, or_self, and_true, true_and, and_false, false_and, not_true_eq_false, not_false_eq_true], by simp (disch := omega) only [gi_si_e, gi_si_n, gp_sp_e, gp_sp_n, gr_sr_e, gr_sr_n, gi_sp, gi_sr, gp_si, gp_sr, gr_si, gr_sp, upd_e, upd_n, un_e, un_n, an_sn_e, an_sn_n, an_sm, an_sv, am_sn, am_sm_e, am_sm_n, am_sv, ai_sn, ai_sm, ai_sv_e, ai_sv_n, reduceIte, or_false, false_or, or_true, true_or, or_self, and_true, true_and, and_false, false_and, not_true_eq_false, not_false_eq_true], by simp (disch := omega) only [gi_si_e, gi_si_n, gp_sp_e, gp_sp_n, gr_sr_e, gr_sr_n, gi_sp, gi_sr, gp_si, gp_sr, gr_si, gr_sp, upd_e, upd_n, un_e, un_n, an_sn_e, an_sn_n, an_sm, an_sv, am_sn, am_sm_e, am_sm_n, am_sv, ai_sn, ai_sm, ai_sv_e, ai_sv_n, reduceIte, or_false, false_or, or_true, true_or, or_self, and_true, true_and, and_false, false_and, not_true_eq_false, not_false_eq_true], fun t ht => gi_si_n _ _ (by omega), rfl, rfl, rfl, rfl, fun _ _ => rfl, h.so⟩ (mIr_refl τ)
  have t1 := takeAll_L hR1 (m := m) (m' := m') ⟨hS.1, hS.2.1, h89⟩ _ (fu := FU) (r := 0) rfl (by unfold FU; omega) (by omega)
  rw [show AL a 0 = [] from rfl, wr_nil, sr_si, sr_si, si_si, si_si, gr_si, sr_id, show off a 0 = 0 from rfl, ← hNe] at t1
  obtain ⟨X, hX⟩ : ∃ z, z = wr (gr σ m) 0 (AL a 4) := ⟨_, rfl⟩
  rw [← hX] at t1
  have hsX : seg X 0 N = AL a 4 := by
    have := seg_wr (AL a 4) (gr σ m) 0
    rw [AL_len, ← hNe, ← hX] at this
    exact this
  have eX : gr (si (sr σ m X) 59 (nI N)) m = X := by rw [gr_si, gr_sr_e _ _ rfl]
  obtain ⟨σ1, M, M', k1, k2, k3, k4⟩ := arrange_eq hm (t := 0) (by omega) (n := N) (m := m) (m' := m') (σ := si (sr σ m X) 59 (nI N)) (by omega) (h.cd.fr (by simp (disch := omega) only [gi_si_e, gi_si_n, gp_sp_e, gp_sp_n, gr_sr_e, gr_sr_n, gi_sp, gi_sr, gp_si, gp_sr, gr_si, gr_sp, upd_e, upd_n, un_e, un_n, an_sn_e, an_sn_n, an_sm, an_sv, am_sn, am_sm_e, am_sm_n, am_sv, ai_sn, ai_sm, ai_sv_e, ai_sv_n, reduceIte, or_false, false_or, or_true, true_or, or_self, and_true, true_and, and_false, false_and, not_true_eq_false, not_false_eq_true]) (by simp (disch := omega) only [gi_si_e, gi_si_n, gp_sp_e, gp_sp_n, gr_sr_e, gr_sr_n, gi_sp, gi_sr, gp_si, gp_sr, gr_si, gr_sp, upd_e, upd_n, un_e, un_n, an_sn_e, an_sn_n, an_sm, an_sv, am_sn, am_sm_e, am_sm_n, am_sv, ai_sn, ai_sm, ai_sv_e, ai_sv_n, reduceIte, or_false, false_or, or_true, true_or, or_self, and_true, true_and, and_false, false_and, not_true_eq_false, not_false_eq_true]) (by simp (disch := omega) only [gi_si_e, gi_si_n, gp_sp_e, gp_sp_n, gr_sr_e, gr_sr_n, gi_sp, gi_sr, gp_si, gp_sr, gr_si, gr_sp, upd_e, upd_n, un_e, un_n, an_sn_e, an_sn_n, an_sm, an_sv, am_sn, am_sm_e, am_sm_n, am_sv, ai_sn, ai_sm, ai_sv_e, ai_sv_n, reduceIte, or_false, false_or, or_true, true_or, or_self, and_true, true_and, and_false, false_and, not_true_eq_false, not_false_eq_true])) ⟨hS.1, hS.2.1, h89⟩ (gi_si_e _ _ rfl) (fun q hq => by
    rw [eX]
    have h1 : X q ∈ seg X 0 N := seg_mem' hq
    rw [hsX] at h1
    exact AL_mem h.wa (by omega) _ h1)
  rw [eX, hsX] at k1 k4
  -- the reference's
  have c1 := cpAll_L h _ (fu := FU) (r := 0) rfl (by unfold FU; omega) (by omega)
  rw [show AL a 0 = [] from rfl, wr_nil, sr_id, show off a 0 = 0 from rfl, ← hNe] at c1
  obtain ⟨Y, hY⟩ : ∃ z, z = wr (gr τ 12) 0 (AL a 4) := ⟨_, rfl⟩
  rw [← hY] at c1
  have hsY : seg Y 0 N = AL a 4 := by
    have := seg_wr (AL a 4) (gr τ 12) 0
    rw [AL_len, ← hNe, ← hY] at this
    exact this
  have e12 : gr (sr τ 12 Y) 12 = Y := gr_sr_e _ _ rfl
  obtain ⟨W, B, w1, w2, w3⟩ := sorts_eq hm (t := 0) (by omega) (n := N) (by omega) (τ := sr τ 12 Y) (h.md.fr rfl (by simp (disch := omega) only [gi_si_e, gi_si_n, gp_sp_e, gp_sp_n, gr_sr_e, gr_sr_n, gi_sp, gi_sr, gp_si, gp_sr, gr_si, gr_sp, upd_e, upd_n, un_e, un_n, an_sn_e, an_sn_n, an_sm, an_sv, am_sn, am_sm_e, am_sm_n, am_sv, ai_sn, ai_sm, ai_sv_e, ai_sv_n, reduceIte, or_false, false_or, or_true, true_or, or_self, and_true, true_and, and_false, false_and, not_true_eq_false, not_false_eq_true]) (by simp (disch := omega) only [gi_si_e, gi_si_n, gp_sp_e, gp_sp_n, gr_sr_e, gr_sr_n, gi_sp, gi_sr, gp_si, gp_sr, gr_si, gr_sp, upd_e, upd_n, un_e, un_n, an_sn_e, an_sn_n, an_sm, an_sv, am_sn, am_sm_e, am_sm_n, am_sv, ai_sn, ai_sm, ai_sv_e, ai_sv_n, reduceIte, or_false, false_or, or_true, true_or, or_self, and_true, true_and, and_false, false_and, not_true_eq_false, not_false_eq_true])) (fun q hq => by
    rw [e12]
    have h1 : Y q ∈ seg Y 0 N := seg_mem' hq
    rw [hsY] at h1
    exact AL_mem h.wa (by omega) _ h1)
  rw [e12, hsY] at w2
  rw [e12] at w1
  have hWT : ∀ q, q < N → W q = gr σ1 M q := fun q hq => by
    have q1 := seg_get (gr σ1 M) N 0 q hq
    have q2 := seg_get W N 0 q hq
    rw [k4, ← w2, q2, Nat.zero_add] at q1
    exact Option.some.inj q1
  have hYg : ∀ r q, r < 4 → q < an a (10 + r) → Y (off a r + q) = mk a r q := fun r q hr hq => by
    have h1 := AL_get a hq 4 hr
    rw [hY]
    exact wr_in _ (Nat.zero_le _) (by rw [Nat.sub_zero]; exact h1)
  -- both go on from states that the reading fits
  have hR2 : REL a σ1 (sr (sr (sr τ 12 Y) 13 B) 12 W) := by
    refine h.ir ⟨?_, ?_, ?_, fun t ht => ?_, ?_, ?_, ?_, ?_, fun t ht => ?_, k3.or⟩ ⟨rfl, rfl, rfl, by simp (disch := omega) only [gi_si_e, gi_si_n, gp_sp_e, gp_sp_n, gr_sr_e, gr_sr_n, gi_sp, gi_sr, gp_si, gp_sr, gr_si, gr_sp, upd_e, upd_n, un_e, un_n, an_sn_e, an_sn_n, an_sm, an_sv, am_sn, am_sm_e, am_sm_n, am_sv, ai_sn, ai_sm, ai_sv_e, ai_sv_n, reduceIte, or_false, false_or, or_true, true_or, or_self, and_true, true_and, and_false, false_and, not_true_eq_false, not_false_eq_true], by simp (disch := omega) only [gi_si_e, gi_si_n, gp_sp_e, gp_sp_n, gr_sr_e, gr_sr_n, gi_sp, gi_sr, gp_si, gp_sr, gr_si, gr_sp, upd_e, upd_n, un_e, un_n, an_sn_e, an_sn_n, an_sm, an_sv, am_sn, am_sm_e, am_sm_n, am_sv, ai_sn, ai_sm, ai_sv_e, ai_sv_n, reduceIte, or_false, false_or, or_true, true_or, or_self, and_true, true_and, and_false, false_and, not_true_eq_false, not_false_eq_true], by simp (disch := omega) only [gi_si_e, gi_si_n, gp_sp_e, gp_sp_n, gr_sr_e, gr_sr_n, gi_sp, gi_sr, gp_si, gp_sr, gr_si, gr_sp, upd_e, upd_n, un_e, un_n, an_sn_e, an_sn_n, an_sm, an_sv, am_sn, am_sm_e, am_sm_n, am_sv, ai_sn, ai_sm, ai_sv_e, ai_sv_n, reduceIte, or_false, false_or, or_true, true_or, or_self, and_true, true_and, and_false, false_and, not_true_eq_false, not_false_eq_true], by simp (disch := omega) only [gi_si_e, gi_si_n, gp_sp_e, gp_sp_n, gr_sr_e, gr_sr_n, gi_sp, gi_sr, gp_si, gp_sr, gr_si, gr_sp, upd_e, upd_n, un_e, un_n, an_sn_e, an_sn_n, an_sm, an_sv, am_sn, am_sm_e, am_sm_n, am_sv, ai_sn, ai_sm, ai_sv_e, ai_sv_n, reduceIte, or_false, false_or, or_true, true_or, or_self, and_true, true_and, and_false, false_and, not_true_eq_false, not_false_eq_true], by simp (disch := omega) only [gi_si_e, gi_si_n, gp_sp_e, gp_sp_n, gr_sr_e, gr_sr_n, gi_sp, gi_sr, gp_si, gp_sr, gr_si, gr_sp, upd_e, upd_n, un_e, un_n, an_sn_e, an_sn_n, an_sm, an_sv, am_sn, am_sm_e, am_sm_n, am_sv, ai_sn, ai_sm, ai_sv_e, ai_sv_n, reduceIte, or_false, false_or, or_true, true_or, or_self, and_true, true_and, and_false, false_and, not_true_eq_false, not_false_eq_true], by simp (disch := omega) only [gi_si_e, gi_si_n, gp_sp_e, gp_sp_n, gr_sr_e, gr_sr_n, gi_sp, gi_sr, gp_si, gp_sr, gr_si, gr_sp, upd_e, upd_n, un_e, un_n, an_sn_e, an_sn_n, an_sm, an_sv, am_sn, am_sm_e, am_sm_n, am_sv, ai_sn, ai_sm, ai_sv_e, ai_sv_n, reduceIte, or_false, false_or, or_true, true_or, or_self, and_true, true_and, and_false, false_and, not_true_eq_false, not_false_eq_true], by simp (disch := omega) only [gi_si_e, gi_si_n, gp_sp_e, gp_sp_n, gr_sr_e, gr_sr_n, gi_sp, gi_sr, gp_si, gp_sr, gr_si, gr_sp, upd_e, upd_n, un_e, un_n, an_sn_e, an_sn_n, an_sm, an_sv, am_sn, am_sm_e, am_sm_n, am_sv, ai_sn, ai_sm, ai_sv_e, ai_sv_n, reduceIte, or_false, false_or, or_true, true_or, or_self, and_true, true_and, and_false, false_and, not_true_eq_false, not_false_eq_true]⟩
    · rw [k2.1]; simp (disch := omega) only [gi_si_e, gi_si_n, gp_sp_e, gp_sp_n, gr_sr_e, gr_sr_n, gi_sp, gi_sr, gp_si, gp_sr, gr_si, gr_sp, upd_e, upd_n, un_e, un_n, an_sn_e, an_sn_n, an_sm, an_sv, am_sn, am_sm_e, am_sm_n, am_sv, ai_sn, ai_sm, ai_sv_e, ai_sv_n, reduceIte, or_false, false_or, or_true, true_or, or_self, and_true, true_and, and_false, false_and, not_true_eq_false, not_false_eq_true]
    · rw [k2.1]; simp (disch := omega) only [gi_si_e, gi_si_n, gp_sp_e, gp_sp_n, gr_sr_e, gr_sr_n, gi_sp, gi_sr, gp_si, gp_sr, gr_si, gr_sp, upd_e, upd_n, un_e, un_n, an_sn_e, an_sn_n, an_sm, an_sv, am_sn, am_sm_e, am_sm_n, am_sv, ai_sn, ai_sm, ai_sv_e, ai_sv_n, reduceIte, or_false, false_or, or_true, true_or, or_self, and_true, true_and, and_false, false_and, not_true_eq_false, not_false_eq_true]
    · rw [k2.1]; simp (disch := omega) only [gi_si_e, gi_si_n, gp_sp_e, gp_sp_n, gr_sr_e, gr_sr_n, gi_sp, gi_sr, gp_si, gp_sr, gr_si, gr_sp, upd_e, upd_n, un_e, un_n, an_sn_e, an_sn_n, an_sm, an_sv, am_sn, am_sm_e, am_sm_n, am_sv, ai_sn, ai_sm, ai_sv_e, ai_sv_n, reduceIte, or_false, false_or, or_true, true_or, or_self, and_true, true_and, and_false, false_and, not_true_eq_false, not_false_eq_true]
    · rw [k2.1, gi_si_n _ _ (by omega)]; rfl
    · rw [k2.2.2 _ (by omega) (by omega)]; simp (disch := omega) only [gi_si_e, gi_si_n, gp_sp_e, gp_sp_n, gr_sr_e, gr_sr_n, gi_sp, gi_sr, gp_si, gp_sr, gr_si, gr_sp, upd_e, upd_n, un_e, un_n, an_sn_e, an_sn_n, an_sm, an_sv, am_sn, am_sm_e, am_sm_n, am_sv, ai_sn, ai_sm, ai_sv_e, ai_sv_n, reduceIte, or_false, false_or, or_true, true_or, or_self, and_true, true_and, and_false, false_and, not_true_eq_false, not_false_eq_true]
    · rw [k2.2.2 _ (by omega) (by omega)]; simp (disch := omega) only [gi_si_e, gi_si_n, gp_sp_e, gp_sp_n, gr_sr_e, gr_sr_n, gi_sp, gi_sr, gp_si, gp_sr, gr_si, gr_sp, upd_e, upd_n, un_e, un_n, an_sn_e, an_sn_n, an_sm, an_sv, am_sn, am_sm_e, am_sm_n, am_sv, ai_sn, ai_sm, ai_sv_e, ai_sv_n, reduceIte, or_false, false_or, or_true, true_or, or_self, and_true, true_and, and_false, false_and, not_true_eq_false, not_false_eq_true]
    · rw [k2.2.2 _ (by omega) (by omega)]; simp (disch := omega) only [gi_si_e, gi_si_n, gp_sp_e, gp_sp_n, gr_sr_e, gr_sr_n, gi_sp, gi_sr, gp_si, gp_sr, gr_si, gr_sp, upd_e, upd_n, un_e, un_n, an_sn_e, an_sn_n, an_sm, an_sv, am_sn, am_sm_e, am_sm_n, am_sv, ai_sn, ai_sm, ai_sv_e, ai_sv_n, reduceIte, or_false, false_or, or_true, true_or, or_self, and_true, true_and, and_false, false_and, not_true_eq_false, not_false_eq_true]
    · rw [k2.2.2 _ (by omega) (by omega)]; simp (disch := omega) only [gi_si_e, gi_si_n, gp_sp_e, gp_sp_n, gr_sr_e, gr_sr_n, gi_sp, gi_sr, gp_si, gp_sr, gr_si, gr_sp, upd_e, upd_n, un_e, un_n, an_sn_e, an_sn_n, an_sm, an_sv, am_sn, am_sm_e, am_sm_n, am_sv, ai_sn, ai_sm, ai_sv_e, ai_sv_n, reduceIte, or_false, false_or, or_true, true_or, or_self, and_true, true_and, and_false, false_and, not_true_eq_false, not_false_eq_true]
    · rw [k2.2.2 _ (by omega) (by omega), gr_si, gr_sr_n _ _ (by omega)]
  obtain ⟨σ', τ', a', l1, l2, l3⟩ := layAll (gr σ1 M) W Y a h.wa (fun q hq => by
    obtain ⟨i, hi, ei⟩ := w3 q (by omega)
    exact ⟨i, hi, by rw [← hWT q (by omega)]; exact ei, ei⟩) hYg _ (fu := FU) (r := 0) rfl (by unfold FU; omega) (by omega) hR2 rfl (fun _ _ => rfl) (fun _ _ _ _ _ => rfl) k3 (by rw [← hNe]; exact (k2.1 59).trans (gi_si_e _ _ rfl)) rfl (gr_sr_e _ _ rfl)
  rw [show off a 0 = 0 from rfl] at l1 l2
  rw [show dif Y (gr σ1 M) 0 = 0 from rfl, ← hNe] at l1
  refine ⟨nI (dif Y (gr σ1 M) N), σ', si τ' 10 0, a', ?_, ?_, l3.told 0⟩
  · unfold f_X10_sortAll f_X8_clear
    rw [show oNo 0 = 0 from rfl] at k1
    rw [nz0, bnd_s, t1, bnd_s, k1, bnd2_s, l1]; rfl
  · unfold f_X11_sortAll
    rw [nz0, c1, bnd2_s, w1, bnd2_s, l2, bnd_s, told_eq, dif_comm, dif_congr (f' := Y) (g' := gr σ1 M) (fun _ _ => rfl) hWT]; rfl
end SA
