/-! shifting and copying parts of arrays -/
def shU (f : Nat → Int32) (lo hi q : Nat) : Int32 := if lo < q ∧ q ≤ hi then f (q - 1) else f q
def shD (f : Nat → Int32) (lo hi q : Nat) : Int32 := if lo ≤ q ∧ q < hi then f (q + 1) else f q
def cpI (f g : Nat → Int32) (lo hi q : Nat) : Int32 := if lo ≤ q ∧ q < hi then f q else g q
theorem shU_step {f : Nat → Int32} {lo hi : Nat} (h : lo < hi) : shU (upd f hi (f (hi - 1))) lo (hi - 1) = shU f lo hi := by
  funext q
  unfold shU
  by_cases h1 : q = hi
  · subst h1
    rw [if_neg (by omega), if_pos (by omega), upd_e _ _ rfl]
  · by_cases h2 : lo < q ∧ q ≤ hi
    · rw [if_pos (by omega), if_pos h2, upd_n _ _ (by omega)]
    · rw [if_neg (by omega), if_neg h2, upd_n _ _ h1]
theorem shU_0 (f : Nat → Int32) {lo hi : Nat} (h : hi ≤ lo) : shU f lo hi = f := by
  funext q
  unfold shU
  rw [if_neg (by omega)]
theorem shD_step {f : Nat → Int32} {lo hi : Nat} (h : lo < hi) : shD (upd f lo (f (lo + 1))) (lo + 1) hi = shD f lo hi := by
  funext q
  unfold shD
  by_cases h1 : q = lo
  · subst h1
    rw [if_neg (by omega), if_pos (by omega), upd_e _ _ rfl]
  · by_cases h2 : lo ≤ q ∧ q < hi
    · rw [if_pos (by omega), if_pos h2, upd_n _ _ (by omega)]
    · rw [if_neg (by omega), if_neg h2, upd_n _ _ h1]
theorem shD_0 (f : Nat → Int32) {lo hi : Nat} (h : hi ≤ lo) : shD f lo hi = f := by
  funext q
  unfold shD
  rw [if_neg (by omega)]
theorem cpI_step {f g : Nat → Int32} {lo hi : Nat} (h : lo < hi) : cpI f (upd g lo (f lo)) (lo + 1) hi = cpI f g lo hi := by
  funext q
  unfold cpI
  by_cases h1 : q = lo
  · subst h1
    rw [if_neg (by omega), if_pos (by omega), upd_e _ _ rfl]
  · by_cases h2 : lo ≤ q ∧ q < hi
    · rw [if_pos (by omega), if_pos h2]
    · rw [if_neg (by omega), if_neg h2, upd_n _ _ h1]
theorem cpI_0 (f g : Nat → Int32) {lo hi : Nat} (h : hi ≤ lo) : cpI f g lo hi = g := by
  funext q
  unfold cpI
  rw [if_neg (by omega)]
theorem sr_id (σ : St) (k : Nat) : sr σ k (gr σ k) = σ := by
  unfold sr va_up gr
  refine Prod.ext rfl (Prod.ext rfl ?_)
  funext j
  by_cases e : j = k
  · simp [e]
  · simp [e]
section O6
variable {a : AS} {σ τ : St}
theorem put_L {r p : Nat} (hr : r < 4) : ∀ (d : Nat) {fu i : Nat} {τ : St}, i - p = d → d < fu → p ≤ i → i < 800 → f_X11_put_L63 (nI r) (nI p) fu (nI i) τ = some (sr τ 4 (shU (gr τ 4) (800 * r + p) (800 * r + i))) := by
  intro d
  induction d with
  | zero =>
    intro fu i τ hd hf hi h8
    obtain ⟨fu, rfl⟩ : ∃ f, fu = f + 1 := ⟨fu - 1, by omega⟩
    unfold f_X11_put_L63; simp (disch := omega) only [↓bnd_s, ↓bnd2_s, ↓bnd3_s, ↓bnd4_s, ↓bnd5_s, ↓bndR_l, ↓bndR_r, ↓bndX_l, ↓bndX_r, bnd_s, bnd2_s, bnd3_s, bnd4_s, bnd5_s, bndR_l, bndR_r, bndX_l, bndX_r, nq_lt, nq_le, nq_inj, nq_add, nq_mul, nq_sub, nq_div, nq_neg1, nq_clamp, nq_ne1, nq_le1, ne1_lt, n1_lt0, n1_lt, n1_ne, nz0, nz1, nz2, nz3, nz4, nz5, nz6, nz8, nz10, nz31, nz32, nz50, nz400, nz800, nz3200, nz20000, nlt_f, nlt_t, nle_f, nle_t, neq_f, neq_t, gi_si_e, gi_si_n, gp_sp_e, gp_sp_n, gr_sr_e, gr_sr_n, gi_sp, gi_sr, gp_si, gp_sr, gr_si, gr_sp, upd_e, upd_n, un_e, un_n, an_sn_e, an_sn_n, an_sm, an_sv, am_sn, am_sm_e, am_sm_n, am_sv, ai_sn, ai_sm, ai_sv_e, ai_sv_n, reduceIte, or_false, false_or, or_true, true_or, or_self, and_true, true_and, and_false, false_and, not_true_eq_false, not_false_eq_true, shU_0, sr_id]
  | succ d ih =>
    intro fu i τ hd hf hi h8
    obtain ⟨fu, rfl⟩ : ∃ f, fu = f + 1 := ⟨fu - 1, by omega⟩
    have := ih (fu := fu) (i := i - 1) (τ := sr τ 4 (upd (gr τ 4) (800 * r + i) (gr τ 4 (800 * r + i - 1)))) (by omega) (by omega) (by omega) (by omega)
    rw [gr_sr_e _ _ rfl, sr_sr, show 800 * r + (i - 1) = 800 * r + i - 1 by omega, shU_step (by omega)] at this
    unfold f_X11_put_L63; simp (disch := omega) only [↓bnd_s, ↓bnd2_s, ↓bnd3_s, ↓bnd4_s, ↓bnd5_s, ↓bndR_l, ↓bndR_r, ↓bndX_l, ↓bndX_r, bnd_s, bnd2_s, bnd3_s, bnd4_s, bnd5_s, bndR_l, bndR_r, bndX_l, bndX_r, nq_lt, nq_le, nq_inj, nq_add, nq_mul, nq_sub, nq_div, nq_neg1, nq_clamp, nq_ne1, nq_le1, ne1_lt, n1_lt0, n1_lt, n1_ne, nz0, nz1, nz2, nz3, nz4, nz5, nz6, nz8, nz10, nz31, nz32, nz50, nz400, nz800, nz3200, nz20000, nlt_f, nlt_t, nle_f, nle_t, neq_f, neq_t, gi_si_e, gi_si_n, gp_sp_e, gp_sp_n, gr_sr_e, gr_sr_n, gi_sp, gi_sr, gp_si, gp_sr, gr_si, gr_sp, upd_e, upd_n, un_e, un_n, an_sn_e, an_sn_n, an_sm, an_sv, am_sn, am_sm_e, am_sm_n, am_sv, ai_sn, ai_sm, ai_sv_e, ai_sv_n, reduceIte, or_false, false_or, or_true, true_or, or_self, and_true, true_and, and_false, false_and, not_true_eq_false, not_false_eq_true]
    exact this
theorem move_L2 {r p : Nat} (hr : r < 4) : ∀ (d : Nat) {fu i : Nat} {τ : St}, i - p = d → d < fu → p ≤ 800 → i < 800 → f_X11_move_L84 (nI r) (nI p) fu (nI i) τ = some (sr τ 4 (shU (gr τ 4) (800 * r + p) (800 * r + i))) := by
  intro d
  induction d with
  | zero =>
    intro fu i τ hd hf hi h8
    obtain ⟨fu, rfl⟩ : ∃ f, fu = f + 1 := ⟨fu - 1, by omega⟩
    unfold f_X11_move_L84; simp (disch := omega) only [↓bnd_s, ↓bnd2_s, ↓bnd3_s, ↓bnd4_s, ↓bnd5_s, ↓bndR_l, ↓bndR_r, ↓bndX_l, ↓bndX_r, bnd_s, bnd2_s, bnd3_s, bnd4_s, bnd5_s, bndR_l, bndR_r, bndX_l, bndX_r, nq_lt, nq_le, nq_inj, nq_add, nq_mul, nq_sub, nq_div, nq_neg1, nq_clamp, nq_ne1, nq_le1, ne1_lt, n1_lt0, n1_lt, n1_ne, nz0, nz1, nz2, nz3, nz4, nz5, nz6, nz8, nz10, nz31, nz32, nz50, nz400, nz800, nz3200, nz20000, nlt_f, nlt_t, nle_f, nle_t, neq_f, neq_t, gi_si_e, gi_si_n, gp_sp_e, gp_sp_n, gr_sr_e, gr_sr_n, gi_sp, gi_sr, gp_si, gp_sr, gr_si, gr_sp, upd_e, upd_n, un_e, un_n, an_sn_e, an_sn_n, an_sm, an_sv, am_sn, am_sm_e, am_sm_n, am_sv, ai_sn, ai_sm, ai_sv_e, ai_sv_n, reduceIte, or_false, false_or, or_true, true_or, or_self, and_true, true_and, and_false, false_and, not_true_eq_false, not_false_eq_true, shU_0, sr_id]
  | succ d ih =>
    intro fu i τ hd hf hi h8
    obtain ⟨fu, rfl⟩ : ∃ f, fu = f + 1 := ⟨fu - 1, by omega⟩
    have := ih (fu := fu) (i := i - 1) (τ := sr τ 4 (upd (gr τ 4) (800 * r + i) (gr τ 4 (800 * r + i - 1)))) (by omega) (by omega) (by omega) (by omega)
    rw [gr_sr_e _ _ rfl, sr_sr, show 800 * r + (i - 1) = 800 * r + i - 1 by omega, shU_step (by omega)] at this
    unfold f_X11_move_L84; simp (disch := omega) only [↓bnd_s, ↓bnd2_s, ↓bnd3_s, ↓bnd4_s, ↓bnd5_s, ↓bndR_l, ↓bndR_r, ↓bndX_l, ↓bndX_r, bnd_s, bnd2_s, bnd3_s, bnd4_s, bnd5_s, bndR_l, bndR_r, bndX_l, bndX_r, nq_lt, nq_le, nq_inj, nq_add, nq_mul, nq_sub, nq_div, nq_neg1, nq_clamp, nq_ne1, nq_le1, ne1_lt, n1_lt0, n1_lt, n1_ne, nz0, nz1, nz2, nz3, nz4, nz5, nz6, nz8, nz10, nz31, nz32, nz50, nz400, nz800, nz3200, nz20000, nlt_f, nlt_t, nle_f, nle_t, neq_f, neq_t, gi_si_e, gi_si_n, gp_sp_e, gp_sp_n, gr_sr_e, gr_sr_n, gi_sp, gi_sr, gp_si, gp_sr, gr_si, gr_sp, upd_e, upd_n, un_e, un_n, an_sn_e, an_sn_n, an_sm, an_sv, am_sn, am_sm_e, am_sm_n, am_sv, ai_sn, ai_sm, ai_sv_e, ai_sv_n, reduceIte, or_false, false_or, or_true, true_or, or_self, and_true, true_and, and_false, false_and, not_true_eq_false, not_false_eq_true]
    exact this
theorem move_L1 {r p : Nat} (hr : r < 4) : ∀ (d : Nat) {fu i : Nat} {τ : St}, p - i = d → d < fu → p < 800 → i < 800 → f_X11_move_L41 (nI r) (nI p) fu (nI i) τ = some (sr τ 4 (shD (gr τ 4) (800 * r + i) (800 * r + p))) := by
  intro d
  induction d with
  | zero =>
    intro fu i τ hd hf hi h8
    obtain ⟨fu, rfl⟩ : ∃ f, fu = f + 1 := ⟨fu - 1, by omega⟩
    unfold f_X11_move_L41; simp (disch := omega) only [↓bnd_s, ↓bnd2_s, ↓bnd3_s, ↓bnd4_s, ↓bnd5_s, ↓bndR_l, ↓bndR_r, ↓bndX_l, ↓bndX_r, bnd_s, bnd2_s, bnd3_s, bnd4_s, bnd5_s, bndR_l, bndR_r, bndX_l, bndX_r, nq_lt, nq_le, nq_inj, nq_add, nq_mul, nq_sub, nq_div, nq_neg1, nq_clamp, nq_ne1, nq_le1, ne1_lt, n1_lt0, n1_lt, n1_ne, nz0, nz1, nz2, nz3, nz4, nz5, nz6, nz8, nz10, nz31, nz32, nz50, nz400, nz800, nz3200, nz20000, nlt_f, nlt_t, nle_f, nle_t, neq_f, neq_t, gi_si_e, gi_si_n, gp_sp_e, gp_sp_n, gr_sr_e, gr_sr_n, gi_sp, gi_sr, gp_si, gp_sr, gr_si, gr_sp, upd_e, upd_n, un_e, un_n, an_sn_e, an_sn_n, an_sm, an_sv, am_sn, am_sm_e, am_sm_n, am_sv, ai_sn, ai_sm, ai_sv_e, ai_sv_n, reduceIte, or_false, false_or, or_true, true_or, or_self, and_true, true_and, and_false, false_and, not_true_eq_false, not_false_eq_true, shD_0, sr_id]
  | succ d ih =>
    intro fu i τ hd hf hi h8
    obtain ⟨fu, rfl⟩ : ∃ f, fu = f + 1 := ⟨fu - 1, by omega⟩
    have := ih (fu := fu) (i := i + 1) (τ := sr τ 4 (upd (gr τ 4) (800 * r + i) (gr τ 4 (800 * r + i + 1)))) (by omega) (by omega) (by omega) (by omega)
    rw [gr_sr_e _ _ rfl, sr_sr, show 800 * r + (i + 1) = 800 * r + i + 1 by omega, shD_step (by omega)] at this
    unfold f_X11_move_L41; simp (disch := omega) only [↓bnd_s, ↓bnd2_s, ↓bnd3_s, ↓bnd4_s, ↓bnd5_s, ↓bndR_l, ↓bndR_r, ↓bndX_l, ↓bndX_r, bnd_s, bnd2_s, bnd3_s, bnd4_s, bnd5_s, bndR_l, bndR_r, bndX_l, bndX_r, nq_lt, nq_le, nq_inj, nq_add, nq_mul, nq_sub, nq_div, nq_neg1, nq_clamp, nq_ne1, nq_le1, ne1_lt, n1_lt0, n1_lt, n1_ne, nz0, nz1, nz2, nz3, nz4, nz5, nz6, nz8, nz10, nz31, nz32, nz50, nz400, nz800, nz3200, nz20000, nlt_f, nlt_t, nle_f, nle_t, neq_f, neq_t, gi_si_e, gi_si_n, gp_sp_e, gp_sp_n, gr_sr_e, gr_sr_n, gi_sp, gi_sr, gp_si, gp_sr, gr_si, gr_sp, upd_e, upd_n, un_e, un_n, an_sn_e, an_sn_n, an_sm, an_sv, am_sn, am_sm_e, am_sm_n, am_sv, ai_sn, ai_sm, ai_sv_e, ai_sv_n, reduceIte, or_false, false_or, or_true, true_or, or_self, and_true, true_and, and_false, false_and, not_true_eq_false, not_false_eq_true]
    exact this
theorem keep_L {r n : Nat} (hr : r < 4) (h8 : n ≤ 800) : ∀ (d : Nat) {fu i : Nat} {τ : St}, gr τ 6 r = nI n → n - i = d → d < fu → i ≤ n → f_X11_keep_L15 (nI r) fu (nI i) τ = some (sr τ 5 (cpI (gr τ 4) (gr τ 5) (800 * r + i) (800 * r + n))) := by
  intro d
  induction d with
  | zero =>
    intro fu i τ hn hd hf hi
    obtain ⟨fu, rfl⟩ : ∃ f, fu = f + 1 := ⟨fu - 1, by omega⟩
    unfold f_X11_keep_L15; simp (disch := omega) only [↓bnd_s, ↓bnd2_s, ↓bnd3_s, ↓bnd4_s, ↓bnd5_s, ↓bndR_l, ↓bndR_r, ↓bndX_l, ↓bndX_r, bnd_s, bnd2_s, bnd3_s, bnd4_s, bnd5_s, bndR_l, bndR_r, bndX_l, bndX_r, nq_lt, nq_le, nq_inj, nq_add, nq_mul, nq_sub, nq_div, nq_neg1, nq_clamp, nq_ne1, nq_le1, ne1_lt, n1_lt0, n1_lt, n1_ne, nz0, nz1, nz2, nz3, nz4, nz5, nz6, nz8, nz10, nz31, nz32, nz50, nz400, nz800, nz3200, nz20000, nlt_f, nlt_t, nle_f, nle_t, neq_f, neq_t, gi_si_e, gi_si_n, gp_sp_e, gp_sp_n, gr_sr_e, gr_sr_n, gi_sp, gi_sr, gp_si, gp_sr, gr_si, gr_sp, upd_e, upd_n, un_e, un_n, an_sn_e, an_sn_n, an_sm, an_sv, am_sn, am_sm_e, am_sm_n, am_sv, ai_sn, ai_sm, ai_sv_e, ai_sv_n, reduceIte, or_false, false_or, or_true, true_or, or_self, and_true, true_and, and_false, false_and, not_true_eq_false, not_false_eq_true, hn, cpI_0, sr_id]
  | succ d ih =>
    intro fu i τ hn hd hf hi
    obtain ⟨fu, rfl⟩ : ∃ f, fu = f + 1 := ⟨fu - 1, by omega⟩
    have := ih (fu := fu) (i := i + 1) (τ := sr τ 5 (upd (gr τ 5) (800 * r + i) (gr τ 4 (800 * r + i)))) (by simp (disch := omega) only [gi_si_e, gi_si_n, gp_sp_e, gp_sp_n, gr_sr_e, gr_sr_n, gi_sp, gi_sr, gp_si, gp_sr, gr_si, gr_sp, upd_e, upd_n, un_e, un_n, an_sn_e, an_sn_n, an_sm, an_sv, am_sn, am_sm_e, am_sm_n, am_sv, ai_sn, ai_sm, ai_sv_e, ai_sv_n, reduceIte, or_false, false_or, or_true, true_or, or_self, and_true, true_and, and_false, false_and, not_true_eq_false, not_false_eq_true]; exact hn) (by omega) (by omega) (by omega)
    rw [gr_sr_e _ _ rfl, gr_sr_n _ _ (by decide), sr_sr, show 800 * r + (i + 1) = 800 * r + i + 1 by omega, cpI_step (by omega)] at this
    unfold f_X11_keep_L15; simp (disch := omega) only [↓bnd_s, ↓bnd2_s, ↓bnd3_s, ↓bnd4_s, ↓bnd5_s, ↓bndR_l, ↓bndR_r, ↓bndX_l, ↓bndX_r, bnd_s, bnd2_s, bnd3_s, bnd4_s, bnd5_s, bndR_l, bndR_r, bndX_l, bndX_r, nq_lt, nq_le, nq_inj, nq_add, nq_mul, nq_sub, nq_div, nq_neg1, nq_clamp, nq_ne1, nq_le1, ne1_lt, n1_lt0, n1_lt, n1_ne, nz0, nz1, nz2, nz3, nz4, nz5, nz6, nz8, nz10, nz31, nz32, nz50, nz400, nz800, nz3200, nz20000, nlt_f, nlt_t, nle_f, nle_t, neq_f, neq_t, gi_si_e, gi_si_n, gp_sp_e, gp_sp_n, gr_sr_e, gr_sr_n, gi_sp, gi_sr, gp_si, gp_sr, gr_si, gr_sp, upd_e, upd_n, un_e, un_n, an_sn_e, an_sn_n, an_sm, an_sv, am_sn, am_sm_e, am_sm_n, am_sv, ai_sn, ai_sm, ai_sv_e, ai_sv_n, reduceIte, or_false, false_or, or_true, true_or, or_self, and_true, true_and, and_false, false_and, not_true_eq_false, not_false_eq_true, hn]
    exact this
theorem rest_L {r n : Nat} (hr : r < 4) (h8 : n ≤ 800) : ∀ (d : Nat) {fu i : Nat} {τ : St}, gr τ 6 r = nI n → n - i = d → d < fu → i ≤ n → f_X11_restore_L137 (nI r) fu (nI i) τ = some (sr τ 4 (cpI (gr τ 5) (gr τ 4) (800 * r + i) (800 * r + n))) := by
  intro d
  induction d with
  | zero =>
    intro fu i τ hn hd hf hi
    obtain ⟨fu, rfl⟩ : ∃ f, fu = f + 1 := ⟨fu - 1, by omega⟩
    unfold f_X11_restore_L137; simp (disch := omega) only [↓bnd_s, ↓bnd2_s, ↓bnd3_s, ↓bnd4_s, ↓bnd5_s, ↓bndR_l, ↓bndR_r, ↓bndX_l, ↓bndX_r, bnd_s, bnd2_s, bnd3_s, bnd4_s, bnd5_s, bndR_l, bndR_r, bndX_l, bndX_r, nq_lt, nq_le, nq_inj, nq_add, nq_mul, nq_sub, nq_div, nq_neg1, nq_clamp, nq_ne1, nq_le1, ne1_lt, n1_lt0, n1_lt, n1_ne, nz0, nz1, nz2, nz3, nz4, nz5, nz6, nz8, nz10, nz31, nz32, nz50, nz400, nz800, nz3200, nz20000, nlt_f, nlt_t, nle_f, nle_t, neq_f, neq_t, gi_si_e, gi_si_n, gp_sp_e, gp_sp_n, gr_sr_e, gr_sr_n, gi_sp, gi_sr, gp_si, gp_sr, gr_si, gr_sp, upd_e, upd_n, un_e, un_n, an_sn_e, an_sn_n, an_sm, an_sv, am_sn, am_sm_e, am_sm_n, am_sv, ai_sn, ai_sm, ai_sv_e, ai_sv_n, reduceIte, or_false, false_or, or_true, true_or, or_self, and_true, true_and, and_false, false_and, not_true_eq_false, not_false_eq_true, hn, cpI_0, sr_id]
  | succ d ih =>
    intro fu i τ hn hd hf hi
    obtain ⟨fu, rfl⟩ : ∃ f, fu = f + 1 := ⟨fu - 1, by omega⟩
    have := ih (fu := fu) (i := i + 1) (τ := sr τ 4 (upd (gr τ 4) (800 * r + i) (gr τ 5 (800 * r + i)))) (by simp (disch := omega) only [gi_si_e, gi_si_n, gp_sp_e, gp_sp_n, gr_sr_e, gr_sr_n, gi_sp, gi_sr, gp_si, gp_sr, gr_si, gr_sp, upd_e, upd_n, un_e, un_n, an_sn_e, an_sn_n, an_sm, an_sv, am_sn, am_sm_e, am_sm_n, am_sv, ai_sn, ai_sm, ai_sv_e, ai_sv_n, reduceIte, or_false, false_or, or_true, true_or, or_self, and_true, true_and, and_false, false_and, not_true_eq_false, not_false_eq_true]; exact hn) (by omega) (by omega) (by omega)
    rw [gr_sr_e _ _ rfl, gr_sr_n _ _ (by decide), sr_sr, show 800 * r + (i + 1) = 800 * r + i + 1 by omega, cpI_step (by omega)] at this
    unfold f_X11_restore_L137; simp (disch := omega) only [↓bnd_s, ↓bnd2_s, ↓bnd3_s, ↓bnd4_s, ↓bnd5_s, ↓bndR_l, ↓bndR_r, ↓bndX_l, ↓bndX_r, bnd_s, bnd2_s, bnd3_s, bnd4_s, bnd5_s, bndR_l, bndR_r, bndX_l, bndX_r, nq_lt, nq_le, nq_inj, nq_add, nq_mul, nq_sub, nq_div, nq_neg1, nq_clamp, nq_ne1, nq_le1, ne1_lt, n1_lt0, n1_lt, n1_ne, nz0, nz1, nz2, nz3, nz4, nz5, nz6, nz8, nz10, nz31, nz32, nz50, nz400, nz800, nz3200, nz20000, nlt_f, nlt_t, nle_f, nle_t, neq_f, neq_t, gi_si_e, gi_si_n, gp_sp_e, gp_sp_n, gr_sr_e, gr_sr_n, gi_sp, gi_sr, gp_si, gp_sr, gr_si, gr_sp, upd_e, upd_n, un_e, un_n, an_sn_e, an_sn_n, an_sm, an_sv, am_sn, am_sm_e, am_sm_n, am_sv, ai_sn, ai_sm, ai_sv_e, ai_sv_n, reduceIte, or_false, false_or, or_true, true_or, or_self, and_true, true_and, and_false, false_and, not_true_eq_false, not_false_eq_true, hn]
    exact this
/-- how many of the first n places differ -/
def dif (f g : Nat → Int32) : Nat → Nat
  | 0 => 0
  | n + 1 => dif f g n + if f n = g n then 0 else 1
theorem dif_s (f g : Nat → Int32) (n : Nat) : dif f g (n + 1) = dif f g n + if f n = g n then 0 else 1 := rfl
theorem dif_le (f g : Nat → Int32) : ∀ n, dif f g n ≤ n
  | 0 => Nat.le_refl _
  | n + 1 => by
    have := dif_le f g n
    unfold dif
    split <;> omega
theorem dif_congr {f g f' g' : Nat → Int32} : ∀ {n : Nat}, (∀ k, k < n → f k = f' k) → (∀ k, k < n → g k = g' k) → dif f g n = dif f' g' n
  | 0, _, _ => rfl
  | n + 1, h1, h2 => by
    unfold dif
    rw [dif_congr (fun k hk => h1 k (by omega)) (fun k hk => h2 k (by omega)), h1 n (by omega), h2 n (by omega)]
theorem become_L {j i2 m c0 : Nat} (h8 : m ≤ 800) (hc0 : c0 ≤ 800) : ∀ (d : Nat) {fu i : Nat}, m - i = d → d < fu → i ≤ m →
    f_X6_become_L29 j i2 (nI m) σ fu (nI (c0 + dif (gr σ (j + 16)) (gr σ (i2 + 16)) i)) (nI i) = some (nI (c0 + dif (gr σ (j + 16)) (gr σ (i2 + 16)) m)) := by
  intro d
  induction d with
  | zero =>
    intro fu i hd hf hi
    obtain ⟨fu, rfl⟩ : ∃ f, fu = f + 1 := ⟨fu - 1, by omega⟩
    have e : i = m := by omega
    subst e
    unfold f_X6_become_L29; simp (disch := omega) only [↓bnd_s, ↓bnd2_s, ↓bnd3_s, ↓bnd4_s, ↓bnd5_s, ↓bndR_l, ↓bndR_r, ↓bndX_l, ↓bndX_r, bnd_s, bnd2_s, bnd3_s, bnd4_s, bnd5_s, bndR_l, bndR_r, bndX_l, bndX_r, nq_lt, nq_le, nq_inj, nq_add, nq_mul, nq_sub, nq_div, nq_neg1, nq_clamp, nq_ne1, nq_le1, ne1_lt, n1_lt0, n1_lt, n1_ne, nz0, nz1, nz2, nz3, nz4, nz5, nz6, nz8, nz10, nz31, nz32, nz50, nz400, nz800, nz3200, nz20000, nlt_f, nlt_t, nle_f, nle_t, neq_f, neq_t, gi_si_e, gi_si_n, gp_sp_e, gp_sp_n, gr_sr_e, gr_sr_n, gi_sp, gi_sr, gp_si, gp_sr, gr_si, gr_sp, upd_e, upd_n, un_e, un_n, an_sn_e, an_sn_n, an_sm, an_sv, am_sn, am_sm_e, am_sm_n, am_sv, ai_sn, ai_sm, ai_sv_e, ai_sv_n, reduceIte, or_false, false_or, or_true, true_or, or_self, and_true, true_and, and_false, false_and, not_true_eq_false, not_false_eq_true]
  | succ d ih =>
    intro fu i hd hf hi
    obtain ⟨fu, rfl⟩ : ∃ f, fu = f + 1 := ⟨fu - 1, by omega⟩
    have := ih (fu := fu) (i := i + 1) (by omega) (by omega) (by omega)
    rw [dif_s] at this
    unfold f_X6_become_L29
    by_cases e : gr σ (j + 16) i = gr σ (i2 + 16) i
    · rw [if_pos e, Nat.add_zero] at this
      simp (disch := omega) only [↓bnd_s, ↓bnd2_s, ↓bnd3_s, ↓bnd4_s, ↓bnd5_s, ↓bndR_l, ↓bndR_r, ↓bndX_l, ↓bndX_r, bnd_s, bnd2_s, bnd3_s, bnd4_s, bnd5_s, bndR_l, bndR_r, bndX_l, bndX_r, nq_lt, nq_le, nq_inj, nq_add, nq_mul, nq_sub, nq_div, nq_neg1, nq_clamp, nq_ne1, nq_le1, ne1_lt, n1_lt0, n1_lt, n1_ne, nz0, nz1, nz2, nz3, nz4, nz5, nz6, nz8, nz10, nz31, nz32, nz50, nz400, nz800, nz3200, nz20000, nlt_f, nlt_t, nle_f, nle_t, neq_f, neq_t, gi_si_e, gi_si_n, gp_sp_e, gp_sp_n, gr_sr_e, gr_sr_n, gi_sp, gi_sr, gp_si, gp_sr, gr_si, gr_sp, upd_e, upd_n, un_e, un_n, an_sn_e, an_sn_n, an_sm, an_sv, am_sn, am_sm_e, am_sm_n, am_sv, ai_sn, ai_sm, ai_sv_e, ai_sv_n, reduceIte, or_false, false_or, or_true, true_or, or_self, and_true, true_and, and_false, false_and, not_true_eq_false, not_false_eq_true, e]; exact this
    · rw [if_neg e, ← Nat.add_assoc] at this
      simp (disch := omega) only [↓bnd_s, ↓bnd2_s, ↓bnd3_s, ↓bnd4_s, ↓bnd5_s, ↓bndR_l, ↓bndR_r, ↓bndX_l, ↓bndX_r, bnd_s, bnd2_s, bnd3_s, bnd4_s, bnd5_s, bndR_l, bndR_r, bndX_l, bndX_r, nq_lt, nq_le, nq_inj, nq_add, nq_mul, nq_sub, nq_div, nq_neg1, nq_clamp, nq_ne1, nq_le1, ne1_lt, n1_lt0, n1_lt, n1_ne, nz0, nz1, nz2, nz3, nz4, nz5, nz6, nz8, nz10, nz31, nz32, nz50, nz400, nz800, nz3200, nz20000, nlt_f, nlt_t, nle_f, nle_t, neq_f, neq_t, gi_si_e, gi_si_n, gp_sp_e, gp_sp_n, gr_sr_e, gr_sr_n, gi_sp, gi_sr, gp_si, gp_sr, gr_si, gr_sp, upd_e, upd_n, un_e, un_n, an_sn_e, an_sn_n, an_sm, an_sv, am_sn, am_sm_e, am_sm_n, am_sv, ai_sn, ai_sm, ai_sv_e, ai_sv_n, reduceIte, or_false, false_or, or_true, true_or, or_self, and_true, true_and, and_false, false_and, not_true_eq_false, not_false_eq_true, e]; exact this
theorem become_eq {j i2 s t : Nat} (hs : gi σ (8 * j + 1) = nI s) (ht : gi σ (8 * i2 + 1) = nI t) (hs8 : s ≤ 800) (ht8 : t ≤ 800) :
    f_X6_become j i2 σ = some (nI (max s t - min s t + dif (gr σ (j + 16)) (gr σ (i2 + 16)) (min s t)), si (sr σ (j + 16) (va_cpy (gr σ (i2 + 16)) (gr σ (j + 16)) 0 0 t)) (8 * j + 1) (nI t)) := by
  have hL := become_L (σ := σ) (j := j) (i2 := i2) (m := min s t) (c0 := max s t - min s t) (by omega) (by omega) _ (fu := FU) (i := 0) rfl (by unfold FU; omega) (by omega)
  rw [show dif (gr σ (j + 16)) (gr σ (i2 + 16)) 0 = 0 from rfl, Nat.add_zero] at hL
  have e1 : (if nI t < nI s then nI t else nI s) = nI (min s t) := by
    by_cases e : t < s
    · rw [if_pos ((nq_lt (by omega) (by omega)).mpr e), Nat.min_eq_right (by omega)]
    · rw [if_neg (fun q => e ((nq_lt (by omega) (by omega)).mp q)), Nat.min_eq_left (by omega)]
  have e2 : (if nI s < nI t then nI t else nI s) = nI (max s t) := by
    by_cases e : s < t
    · rw [if_pos ((nq_lt (by omega) (by omega)).mpr e), Nat.max_eq_right (by omega)]
    · rw [if_neg (fun q => e ((nq_lt (by omega) (by omega)).mp q)), Nat.max_eq_left (by omega)]
  have hmm : min s t ≤ max s t := by omega
  unfold f_X6_become
  rw [hs, ht, e1, e2, nq_sub hmm, nz0, hL]
  simp (disch := omega) only [↓bnd_s, ↓bnd2_s, ↓bnd3_s, ↓bnd4_s, ↓bnd5_s, ↓bndR_l, ↓bndR_r, ↓bndX_l, ↓bndX_r, bnd_s, bnd2_s, bnd3_s, bnd4_s, bnd5_s, bndR_l, bndR_r, bndX_l, bndX_r, nq_lt, nq_le, nq_inj, nq_add, nq_mul, nq_sub, nq_div, nq_neg1, nq_clamp, nq_ne1, nq_le1, ne1_lt, n1_lt0, n1_lt, n1_ne, nz0, nz1, nz2, nz3, nz4, nz5, nz6, nz8, nz10, nz31, nz32, nz50, nz400, nz800, nz3200, nz20000, nlt_f, nlt_t, nle_f, nle_t, neq_f, neq_t, gi_si_e, gi_si_n, gp_sp_e, gp_sp_n, gr_sr_e, gr_sr_n, gi_sp, gi_sr, gp_si, gp_sr, gr_si, gr_sp, upd_e, upd_n, un_e, un_n, an_sn_e, an_sn_n, an_sm, an_sv, am_sn, am_sm_e, am_sm_n, am_sv, ai_sn, ai_sm, ai_sv_e, ai_sv_n, reduceIte, or_false, false_or, or_true, true_or, or_self, and_true, true_and, and_false, false_and, not_true_eq_false, not_false_eq_true, ht]
end O6
