/-! the reference sorts by putting in one behind the other -/
/-- what a sorted part leaves in the reference: F is the table of cards then -/
def qF (F : Nat → Int32) (τ τ' : St) : Prop := (∀ k, gi τ' k = gi τ k) ∧ gr τ' 4 = F ∧ ∀ i, i ≠ 4 → i ≠ 12 → i ≠ 13 → gr τ' i = gr τ i
theorem MD.fr {a : AS} {τ τ' : St} (h : MD a τ) (h1 : gi τ' 2 = gi τ 2) (h2 : gr τ' 1 = gr τ 1) (h3 : gr τ' 2 = gr τ 2) : MD a τ' := by
  unfold MD at h ⊢
  rw [h1, h2, h3]; exact h
section RS
variable {a : AS}
theorem cpb_L {n : Nat} (hn : n ≤ 3200) (τ : St) : ∀ (d : Nat) {fu i : Nat}, n - i = d → d < fu → i ≤ n →
    f_X11_sorts_L2 (nI n) fu (nI i) (sr τ 13 (wr (gr τ 13) 0 (seg (gr τ 12) 0 i))) = some (sr τ 13 (wr (gr τ 13) 0 (seg (gr τ 12) 0 n))) := by
  intro d
  induction d with
  | zero =>
    intro fu i hd hf hi
    obtain ⟨fu, rfl⟩ : ∃ f, fu = f + 1 := ⟨fu - 1, by omega⟩
    have e : i = n := by omega
    subst e
    unfold f_X11_sorts_L2; simp (disch := omega) only [↓bnd_s, ↓bnd2_s, ↓bnd3_s, ↓bnd4_s, ↓bnd5_s, ↓bndR_l, ↓bndR_r, ↓bndX_l, ↓bndX_r, bnd_s, bnd2_s, bnd3_s, bnd4_s, bnd5_s, bndR_l, bndR_r, bndX_l, bndX_r, nq_lt, nq_le, nq_inj, nq_add, nq_mul, nq_sub, nq_div, nq_neg1, nq_clamp, nq_ne1, nq_le1, ne1_lt, n1_lt0, n1_lt, n1_ne, nz0, nz1, nz2, nz3, nz4, nz5, nz6, nz8, nz10, nz31, nz32, nz50, nz400, nz800, nz3200, nz20000, nlt_f, nlt_t, nle_f, nle_t, neq_f, neq_t, gi_si_e, gi_si_n, gp_sp_e, gp_sp_n, gr_sr_e, gr_sr_n, gi_sp, gi_sr, gp_si, gp_sr, gr_si, gr_sp, upd_e, upd_n, un_e, un_n, an_sn_e, an_sn_n, an_sm, an_sv, am_sn, am_sm_e, am_sm_n, am_sv, ai_sn, ai_sm, ai_sv_e, ai_sv_n, reduceIte, or_false, false_or, or_true, true_or, or_self, and_true, true_and, and_false, false_and, not_true_eq_false, not_false_eq_true]
  | succ d ih =>
    intro fu i hd hf hi
    obtain ⟨fu, rfl⟩ : ∃ f, fu = f + 1 := ⟨fu - 1, by omega⟩
    have := ih (fu := fu) (i := i + 1) (by omega) (by omega) (by omega)
    rw [← wr_seg_s, Nat.zero_add] at this
    unfold f_X11_sorts_L2
    simp (disch := omega) only [↓bnd_s, ↓bnd2_s, ↓bnd3_s, ↓bnd4_s, ↓bnd5_s, ↓bndR_l, ↓bndR_r, ↓bndX_l, ↓bndX_r, bnd_s, bnd2_s, bnd3_s, bnd4_s, bnd5_s, bndR_l, bndR_r, bndX_l, bndX_r, nq_lt, nq_le, nq_inj, nq_add, nq_mul, nq_sub, nq_div, nq_neg1, nq_clamp, nq_ne1, nq_le1, ne1_lt, n1_lt0, n1_lt, n1_ne, nz0, nz1, nz2, nz3, nz4, nz5, nz6, nz8, nz10, nz31, nz32, nz50, nz400, nz800, nz3200, nz20000, nlt_f, nlt_t, nle_f, nle_t, neq_f, neq_t, gi_si_e, gi_si_n, gp_sp_e, gp_sp_n, gr_sr_e, gr_sr_n, gi_sp, gi_sr, gp_si, gp_sr, gr_si, gr_sp, upd_e, upd_n, un_e, un_n, an_sn_e, an_sn_n, an_sm, an_sv, am_sn, am_sm_e, am_sm_n, am_sv, ai_sn, ai_sm, ai_sv_e, ai_sv_n, reduceIte, or_false, false_or, or_true, true_or, or_self, and_true, true_and, and_false, false_and, not_true_eq_false, not_false_eq_true, sr_sr]
    exact this
theorem ins_L (hm : an a 0 ≤ 20000) {t : Nat} (ht : t < 4) {xi : Nat} (hx : xi < an a 0) : ∀ (v : Nat) {fu : Nat} {τ : St}, MD a τ → v ≤ 3199 → v < fu → (∀ q, q < v → ∃ i, i < an a 0 ∧ gr τ 12 q = nI i) →
    ∃ o, o ≤ v ∧ f_X11_sorts_L43 (nI t) (nI xi) fu (nI v) τ = some (nI o, sr τ 12 (shU (gr τ 12) o v)) ∧ (∀ q, o ≤ q → q < v → ky a t (nI xi) < ky a t (gr τ 12 q)) ∧ (o = 0 ∨ ¬ ky a t (nI xi) < ky a t (gr τ 12 (o - 1))) := by
  intro v
  induction v with
  | zero =>
    intro fu τ hM hv hf hN
    obtain ⟨fu, rfl⟩ : ∃ f, fu = f + 1 := ⟨fu - 1, by omega⟩
    refine ⟨0, by omega, ?_, fun q h1 h2 => absurd h2 (by omega), Or.inl rfl⟩
    rw [shU_0 _ (Nat.le_refl _), sr_id]
    unfold f_X11_sorts_L43; simp (disch := omega) only [↓bnd_s, ↓bnd2_s, ↓bnd3_s, ↓bnd4_s, ↓bnd5_s, ↓bndR_l, ↓bndR_r, ↓bndX_l, ↓bndX_r, bnd_s, bnd2_s, bnd3_s, bnd4_s, bnd5_s, bndR_l, bndR_r, bndX_l, bndX_r, nq_lt, nq_le, nq_inj, nq_add, nq_mul, nq_sub, nq_div, nq_neg1, nq_clamp, nq_ne1, nq_le1, ne1_lt, n1_lt0, n1_lt, n1_ne, nz0, nz1, nz2, nz3, nz4, nz5, nz6, nz8, nz10, nz31, nz32, nz50, nz400, nz800, nz3200, nz20000, nlt_f, nlt_t, nle_f, nle_t, neq_f, neq_t, gi_si_e, gi_si_n, gp_sp_e, gp_sp_n, gr_sr_e, gr_sr_n, gi_sp, gi_sr, gp_si, gp_sr, gr_si, gr_sp, upd_e, upd_n, un_e, un_n, an_sn_e, an_sn_n, an_sm, an_sv, am_sn, am_sm_e, am_sm_n, am_sv, ai_sn, ai_sm, ai_sv_e, ai_sv_n, reduceIte, or_false, false_or, or_true, true_or, or_self, and_true, true_and, and_false, false_and, not_true_eq_false, not_false_eq_true]
  | succ v ih =>
    intro fu τ hM hv hf hN
    obtain ⟨fu, rfl⟩ : ∃ f, fu = f + 1 := ⟨fu - 1, by omega⟩
    obtain ⟨i, hi, ei⟩ := hN v (by omega)
    have hg := ahead_eq hM hm ht hx hi
    by_cases e : ky a t (nI xi) < ky a t (nI i)
    · rw [if_pos e] at hg
      obtain ⟨o, h1, h2, h3, h4⟩ := ih (fu := fu) (τ := sr τ 12 (upd (gr τ 12) (v + 1) (nI i))) (hM.fr rfl (by simp (disch := omega) only [gi_si_e, gi_si_n, gp_sp_e, gp_sp_n, gr_sr_e, gr_sr_n, gi_sp, gi_sr, gp_si, gp_sr, gr_si, gr_sp, upd_e, upd_n, un_e, un_n, an_sn_e, an_sn_n, an_sm, an_sv, am_sn, am_sm_e, am_sm_n, am_sv, ai_sn, ai_sm, ai_sv_e, ai_sv_n, reduceIte, or_false, false_or, or_true, true_or, or_self, and_true, true_and, and_false, false_and, not_true_eq_false, not_false_eq_true]) (by simp (disch := omega) only [gi_si_e, gi_si_n, gp_sp_e, gp_sp_n, gr_sr_e, gr_sr_n, gi_sp, gi_sr, gp_si, gp_sr, gr_si, gr_sp, upd_e, upd_n, un_e, un_n, an_sn_e, an_sn_n, an_sm, an_sv, am_sn, am_sm_e, am_sm_n, am_sv, ai_sn, ai_sm, ai_sv_e, ai_sv_n, reduceIte, or_false, false_or, or_true, true_or, or_self, and_true, true_and, and_false, false_and, not_true_eq_false, not_false_eq_true])) (by omega) (by omega) (fun q hq => by
        rw [gr_sr_e _ _ rfl, upd_n _ _ (by omega)]; exact hN q (by omega))
      have hq : ∀ q, q ≤ v → upd (gr τ 12) (v + 1) (nI i) q = gr τ 12 q := fun q hq => upd_n _ _ (by omega)
      rw [gr_sr_e _ _ rfl, sr_sr] at h2
      rw [gr_sr_e _ _ rfl] at h3 h4
      have hst : shU (upd (gr τ 12) (v + 1) (nI i)) o v = shU (gr τ 12) o (v + 1) := by
        have := shU_step (f := gr τ 12) (lo := o) (hi := v + 1) (by omega)
        rw [Nat.add_sub_cancel, ei] at this
        exact this
      rw [hst] at h2
      refine ⟨o, by omega, ?_, fun q g1 g2 => ?_, ?_⟩
      · unfold f_X11_sorts_L43
        simp (disch := omega) only [↓bnd_s, ↓bnd2_s, ↓bnd3_s, ↓bnd4_s, ↓bnd5_s, ↓bndR_l, ↓bndR_r, ↓bndX_l, ↓bndX_r, bnd_s, bnd2_s, bnd3_s, bnd4_s, bnd5_s, bndR_l, bndR_r, bndX_l, bndX_r, nq_lt, nq_le, nq_inj, nq_add, nq_mul, nq_sub, nq_div, nq_neg1, nq_clamp, nq_ne1, nq_le1, ne1_lt, n1_lt0, n1_lt, n1_ne, nz0, nz1, nz2, nz3, nz4, nz5, nz6, nz8, nz10, nz31, nz32, nz50, nz400, nz800, nz3200, nz20000, nlt_f, nlt_t, nle_f, nle_t, neq_f, neq_t, gi_si_e, gi_si_n, gp_sp_e, gp_sp_n, gr_sr_e, gr_sr_n, gi_sp, gi_sr, gp_si, gp_sr, gr_si, gr_sp, upd_e, upd_n, un_e, un_n, an_sn_e, an_sn_n, an_sm, an_sv, am_sn, am_sm_e, am_sm_n, am_sv, ai_sn, ai_sm, ai_sv_e, ai_sv_n, reduceIte, or_false, false_or, or_true, true_or, or_self, and_true, true_and, and_false, false_and, not_true_eq_false, not_false_eq_true, Nat.add_sub_cancel, ei, hg]
        exact h2
      · by_cases e2 : q = v
        · rw [e2, ei]; exact e
        · have := h3 q g1 (by omega)
          rw [hq q (by omega)] at this
          exact this
      · rcases h4 with h4 | h4
        · exact Or.inl h4
        · rw [hq _ (by omega)] at h4; exact Or.inr h4
    · rw [if_neg e] at hg
      refine ⟨v + 1, by omega, ?_, fun q h1 h2 => absurd h2 (by omega), Or.inr (by rw [Nat.add_sub_cancel, ei]; exact e)⟩
      rw [shU_0 _ (Nat.le_refl _), sr_id]
      unfold f_X11_sorts_L43
      simp (disch := omega) only [↓bnd_s, ↓bnd2_s, ↓bnd3_s, ↓bnd4_s, ↓bnd5_s, ↓bndR_l, ↓bndR_r, ↓bndX_l, ↓bndX_r, bnd_s, bnd2_s, bnd3_s, bnd4_s, bnd5_s, bndR_l, bndR_r, bndX_l, bndX_r, nq_lt, nq_le, nq_inj, nq_add, nq_mul, nq_sub, nq_div, nq_neg1, nq_clamp, nq_ne1, nq_le1, ne1_lt, n1_lt0, n1_lt, n1_ne, nz0, nz1, nz2, nz3, nz4, nz5, nz6, nz8, nz10, nz31, nz32, nz50, nz400, nz800, nz3200, nz20000, nlt_f, nlt_t, nle_f, nle_t, neq_f, neq_t, gi_si_e, gi_si_n, gp_sp_e, gp_sp_n, gr_sr_e, gr_sr_n, gi_sp, gi_sr, gp_si, gp_sr, gr_si, gr_sp, upd_e, upd_n, un_e, un_n, an_sn_e, an_sn_n, an_sm, an_sv, am_sn, am_sm_e, am_sm_n, am_sv, ai_sn, ai_sm, ai_sv_e, ai_sv_n, reduceIte, or_false, false_or, or_true, true_or, or_self, and_true, true_and, and_false, false_and, not_true_eq_false, not_false_eq_true, Nat.add_sub_cancel, ei, hg]
theorem put_seg {key : Int32 → Int} {W : Nat → Int32} {x : Int32} {o i : Nat} (hoi : o ≤ i) (hs : sortedK key (seg W 0 i)) (h3 : ∀ q, o ≤ q → q < i → key x < key (W q)) (h4 : o = 0 ∨ ¬ key x < key (W (o - 1))) :
    seg (upd (shU W o i) o x) 0 (i + 1) = insK key x (seg W 0 i) := by
  have hget : ∀ q, q < i → (seg W 0 i)[q]? = some (W q) := fun q hq => by
    have := seg_get W i 0 q hq
    rw [Nat.zero_add] at this
    exact this
  rw [insK_split (seg W 0 i) o (by rw [seg_len]; exact hoi) (fun q y hq hy => by
    rw [hget q (by omega)] at hy
    cases hy
    rcases h4 with h4 | h4
    · omega
    · by_cases e : q = o - 1
      · rw [e]; exact h4
      · have := List.pairwise_iff_getElem.mp hs q (o - 1) (by rw [seg_len]; omega) (by rw [seg_len]; omega) (by omega)
        have e1 := hget q (by omega)
        have e2 := hget (o - 1) (by omega)
        rw [List.getElem?_eq_getElem (by rw [seg_len]; omega)] at e1 e2
        rw [Option.some.inj e1, Option.some.inj e2] at this
        omega) (fun y hy => by
    by_cases e : o < i
    · rw [hget o e] at hy
      cases hy
      exact h3 o (Nat.le_refl _) e
    · rw [List.getElem?_eq_none (by rw [seg_len]; omega)] at hy
      cases hy)]
  obtain ⟨k, rfl⟩ : ∃ k, i = o + k := ⟨i - o, by omega⟩
  rw [seg_app W o k 0, List.take_left' (seg_len _ _ _), List.drop_left' (seg_len _ _ _), show o + k + 1 = o + (k + 1) by omega, seg_app _ o (k + 1) 0, Nat.zero_add, seg_s]
  congr 1
  · exact seg_congr fun q hq => by
      rw [upd_n _ _ (by omega)]; unfold shU; rw [if_neg (by omega)]
  · congr 1
    · exact upd_e _ _ rfl
    · exact seg_congr fun q hq => by
        rw [upd_n _ _ (by omega)]; unfold shU; rw [if_pos (by omega)]; congr 1; omega
theorem sort_L (hm : an a 0 ≤ 20000) {t : Nat} (ht : t < 4) {n : Nat} (hn : n ≤ 3200) (f0 : Nat → Int32) : ∀ (d : Nat) {fu i : Nat} {τ : St}, MD a τ → n - i ≤ d → d < fu → (i ≤ n ∨ n = 0) → 1 ≤ i → i ≤ 3201 → (∀ q, q < n → ∃ j, j < an a 0 ∧ gr τ 12 q = nI j) → seg (gr τ 12) 0 i = isrt (ky a t) (seg f0 0 i) → (∀ q, i ≤ q → gr τ 12 q = f0 q) → (n = 0 → ∀ q, gr τ 12 q = f0 q) →
    ∃ W, f_X11_sorts_L27 (nI n) (nI t) fu (nI i) τ = some (sr τ 12 W) ∧ seg W 0 n = isrt (ky a t) (seg f0 0 n) ∧ (∀ q, n ≤ q → W q = f0 q) ∧ ∀ q, q < n → ∃ j, j < an a 0 ∧ W q = nI j := by
  intro d
  induction d with
  | zero =>
    intro fu i τ hM hd hf hi h1 hi2 hN hs ho h0
    obtain ⟨fu, rfl⟩ : ∃ f, fu = f + 1 := ⟨fu - 1, by omega⟩
    refine ⟨gr τ 12, ?_, ?_, ?_, hN⟩
    · rw [sr_id]; unfold f_X11_sorts_L27; simp (disch := omega) only [↓bnd_s, ↓bnd2_s, ↓bnd3_s, ↓bnd4_s, ↓bnd5_s, ↓bndR_l, ↓bndR_r, ↓bndX_l, ↓bndX_r, bnd_s, bnd2_s, bnd3_s, bnd4_s, bnd5_s, bndR_l, bndR_r, bndX_l, bndX_r, nq_lt, nq_le, nq_inj, nq_add, nq_mul, nq_sub, nq_div, nq_neg1, nq_clamp, nq_ne1, nq_le1, ne1_lt, n1_lt0, n1_lt, n1_ne, nz0, nz1, nz2, nz3, nz4, nz5, nz6, nz8, nz10, nz31, nz32, nz50, nz400, nz800, nz3200, nz20000, nlt_f, nlt_t, nle_f, nle_t, neq_f, neq_t, gi_si_e, gi_si_n, gp_sp_e, gp_sp_n, gr_sr_e, gr_sr_n, gi_sp, gi_sr, gp_si, gp_sr, gr_si, gr_sp, upd_e, upd_n, un_e, un_n, an_sn_e, an_sn_n, an_sm, an_sv, am_sn, am_sm_e, am_sm_n, am_sv, ai_sn, ai_sm, ai_sv_e, ai_sv_n, reduceIte, or_false, false_or, or_true, true_or, or_self, and_true, true_and, and_false, false_and, not_true_eq_false, not_false_eq_true]
    · rcases hi with hi | hi
      · rw [show n = i by omega]; exact hs
      · subst hi; rfl
    · rcases hi with hi | hi
      · intro q hq; exact ho q (by omega)
      · intro q _; exact h0 hi q
  | succ d ih =>
    intro fu i τ hM hd hf hi h1 hi2 hN hs ho h0
    obtain ⟨fu, rfl⟩ : ∃ f, fu = f + 1 := ⟨fu - 1, by omega⟩
    by_cases hin : n ≤ i
    · refine ⟨gr τ 12, ?_, ?_, ?_, hN⟩
      · rw [sr_id]; unfold f_X11_sorts_L27; simp (disch := omega) only [↓bnd_s, ↓bnd2_s, ↓bnd3_s, ↓bnd4_s, ↓bnd5_s, ↓bndR_l, ↓bndR_r, ↓bndX_l, ↓bndX_r, bnd_s, bnd2_s, bnd3_s, bnd4_s, bnd5_s, bndR_l, bndR_r, bndX_l, bndX_r, nq_lt, nq_le, nq_inj, nq_add, nq_mul, nq_sub, nq_div, nq_neg1, nq_clamp, nq_ne1, nq_le1, ne1_lt, n1_lt0, n1_lt, n1_ne, nz0, nz1, nz2, nz3, nz4, nz5, nz6, nz8, nz10, nz31, nz32, nz50, nz400, nz800, nz3200, nz20000, nlt_f, nlt_t, nle_f, nle_t, neq_f, neq_t, gi_si_e, gi_si_n, gp_sp_e, gp_sp_n, gr_sr_e, gr_sr_n, gi_sp, gi_sr, gp_si, gp_sr, gr_si, gr_sp, upd_e, upd_n, un_e, un_n, an_sn_e, an_sn_n, an_sm, an_sv, am_sn, am_sm_e, am_sm_n, am_sv, ai_sn, ai_sm, ai_sv_e, ai_sv_n, reduceIte, or_false, false_or, or_true, true_or, or_self, and_true, true_and, and_false, false_and, not_true_eq_false, not_false_eq_true]
      · rcases hi with hi | hi
        · rw [show n = i by omega]; exact hs
        · subst hi; rfl
      · rcases hi with hi | hi
        · intro q hq; exact ho q (by omega)
        · intro q _; exact h0 hi q
    · obtain ⟨xi, hx, ex⟩ := hN i (by omega)
      obtain ⟨o, g1, g2, g3, g4⟩ := ins_L hm ht hx i (fu := FU) (τ := τ) hM (by omega) (by unfold FU; omega) (fun q hq => hN q (by omega))
      have hso : sortedK (ky a t) (seg (gr τ 12) 0 i) := by rw [hs]; exact (isrt_srt _ _ _ rfl).1
      have hp := put_seg g1 hso g3 g4
      obtain ⟨W, k1, k2, k3, k4⟩ := ih (fu := fu) (i := i + 1) (τ := sr τ 12 (upd (shU (gr τ 12) o i) o (nI xi))) (hM.fr rfl (by simp (disch := omega) only [gi_si_e, gi_si_n, gp_sp_e, gp_sp_n, gr_sr_e, gr_sr_n, gi_sp, gi_sr, gp_si, gp_sr, gr_si, gr_sp, upd_e, upd_n, un_e, un_n, an_sn_e, an_sn_n, an_sm, an_sv, am_sn, am_sm_e, am_sm_n, am_sv, ai_sn, ai_sm, ai_sv_e, ai_sv_n, reduceIte, or_false, false_or, or_true, true_or, or_self, and_true, true_and, and_false, false_and, not_true_eq_false, not_false_eq_true]) (by simp (disch := omega) only [gi_si_e, gi_si_n, gp_sp_e, gp_sp_n, gr_sr_e, gr_sr_n, gi_sp, gi_sr, gp_si, gp_sr, gr_si, gr_sp, upd_e, upd_n, un_e, un_n, an_sn_e, an_sn_n, an_sm, an_sv, am_sn, am_sm_e, am_sm_n, am_sv, ai_sn, ai_sm, ai_sv_e, ai_sv_n, reduceIte, or_false, false_or, or_true, true_or, or_self, and_true, true_and, and_false, false_and, not_true_eq_false, not_false_eq_true])) (by omega) (by omega) (Or.inl (by omega)) (by omega) (by omega)
        (fun q hq => by
          rw [gr_sr_e _ _ rfl]
          by_cases e : q = o
          · rw [upd_e _ _ e]; exact ⟨xi, hx, rfl⟩
          · rw [upd_n _ _ e]; unfold shU
            split
            · exact hN _ (by omega)
            · exact hN _ hq)
        (by rw [gr_sr_e _ _ rfl, hp, hs, seg_snoc f0, isrt_app, ← ex, Nat.zero_add, ho i (Nat.le_refl _)])
        (fun q hq => by
          rw [gr_sr_e _ _ rfl, upd_n _ _ (by omega)]; unfold shU; rw [if_neg (by omega)]; exact ho q (by omega)) (fun e => absurd e (by omega))
      rw [sr_sr] at k1
      refine ⟨W, ?_, k2, k3, k4⟩
      unfold f_X11_sorts_L27
      simp (disch := omega) only [↓bnd_s, ↓bnd2_s, ↓bnd3_s, ↓bnd4_s, ↓bnd5_s, ↓bndR_l, ↓bndR_r, ↓bndX_l, ↓bndX_r, bnd_s, bnd2_s, bnd3_s, bnd4_s, bnd5_s, bndR_l, bndR_r, bndX_l, bndX_r, nq_lt, nq_le, nq_inj, nq_add, nq_mul, nq_sub, nq_div, nq_neg1, nq_clamp, nq_ne1, nq_le1, ne1_lt, n1_lt0, n1_lt, n1_ne, nz0, nz1, nz2, nz3, nz4, nz5, nz6, nz8, nz10, nz31, nz32, nz50, nz400, nz800, nz3200, nz20000, nlt_f, nlt_t, nle_f, nle_t, neq_f, neq_t, gi_si_e, gi_si_n, gp_sp_e, gp_sp_n, gr_sr_e, gr_sr_n, gi_sp, gi_sr, gp_si, gp_sr, gr_si, gr_sp, upd_e, upd_n, un_e, un_n, an_sn_e, an_sn_n, an_sm, an_sv, am_sn, am_sm_e, am_sm_n, am_sv, ai_sn, ai_sm, ai_sv_e, ai_sv_n, reduceIte, or_false, false_or, or_true, true_or, or_self, and_true, true_and, and_false, false_and, not_true_eq_false, not_false_eq_true, ex, g2, sr_sr]
      exact k1
theorem cnt_L {n : Nat} (hn : n ≤ 3200) (τ : St) : ∀ (d : Nat) {fu i : Nat}, n - i = d → d < fu → i ≤ n →
    f_X11_sorts_L109 (nI n) τ fu (nI (dif (gr τ 12) (gr τ 13) i)) (nI i) = some (nI (dif (gr τ 12) (gr τ 13) n)) := by
  intro d
  induction d with
  | zero =>
    intro fu i hd hf hi
    obtain ⟨fu, rfl⟩ : ∃ f, fu = f + 1 := ⟨fu - 1, by omega⟩
    have e : i = n := by omega
    subst e
    unfold f_X11_sorts_L109; simp (disch := omega) only [↓bnd_s, ↓bnd2_s, ↓bnd3_s, ↓bnd4_s, ↓bnd5_s, ↓bndR_l, ↓bndR_r, ↓bndX_l, ↓bndX_r, bnd_s, bnd2_s, bnd3_s, bnd4_s, bnd5_s, bndR_l, bndR_r, bndX_l, bndX_r, nq_lt, nq_le, nq_inj, nq_add, nq_mul, nq_sub, nq_div, nq_neg1, nq_clamp, nq_ne1, nq_le1, ne1_lt, n1_lt0, n1_lt, n1_ne, nz0, nz1, nz2, nz3, nz4, nz5, nz6, nz8, nz10, nz31, nz32, nz50, nz400, nz800, nz3200, nz20000, nlt_f, nlt_t, nle_f, nle_t, neq_f, neq_t, gi_si_e, gi_si_n, gp_sp_e, gp_sp_n, gr_sr_e, gr_sr_n, gi_sp, gi_sr, gp_si, gp_sr, gr_si, gr_sp, upd_e, upd_n, un_e, un_n, an_sn_e, an_sn_n, an_sm, an_sv, am_sn, am_sm_e, am_sm_n, am_sv, ai_sn, ai_sm, ai_sv_e, ai_sv_n, reduceIte, or_false, false_or, or_true, true_or, or_self, and_true, true_and, and_false, false_and, not_true_eq_false, not_false_eq_true]
  | succ d ih =>
    intro fu i hd hf hi
    obtain ⟨fu, rfl⟩ : ∃ f, fu = f + 1 := ⟨fu - 1, by omega⟩
    have := ih (fu := fu) (i := i + 1) (by omega) (by omega) (by omega)
    rw [dif_s] at this
    unfold f_X11_sorts_L109
    by_cases e : gr τ 12 i = gr τ 13 i
    · rw [if_pos e] at this
      simp (disch := omega) only [↓bnd_s, ↓bnd2_s, ↓bnd3_s, ↓bnd4_s, ↓bnd5_s, ↓bndR_l, ↓bndR_r, ↓bndX_l, ↓bndX_r, bnd_s, bnd2_s, bnd3_s, bnd4_s, bnd5_s, bndR_l, bndR_r, bndX_l, bndX_r, nq_lt, nq_le, nq_inj, nq_add, nq_mul, nq_sub, nq_div, nq_neg1, nq_clamp, nq_ne1, nq_le1, ne1_lt, n1_lt0, n1_lt, n1_ne, nz0, nz1, nz2, nz3, nz4, nz5, nz6, nz8, nz10, nz31, nz32, nz50, nz400, nz800, nz3200, nz20000, nlt_f, nlt_t, nle_f, nle_t, neq_f, neq_t, gi_si_e, gi_si_n, gp_sp_e, gp_sp_n, gr_sr_e, gr_sr_n, gi_sp, gi_sr, gp_si, gp_sr, gr_si, gr_sp, upd_e, upd_n, un_e, un_n, an_sn_e, an_sn_n, an_sm, an_sv, am_sn, am_sm_e, am_sm_n, am_sv, ai_sn, ai_sm, ai_sv_e, ai_sv_n, reduceIte, or_false, false_or, or_true, true_or, or_self, and_true, true_and, and_false, false_and, not_true_eq_false, not_false_eq_true, e]; exact this
    · rw [if_neg e] at this
      simp (disch := omega) only [↓bnd_s, ↓bnd2_s, ↓bnd3_s, ↓bnd4_s, ↓bnd5_s, ↓bndR_l, ↓bndR_r, ↓bndX_l, ↓bndX_r, bnd_s, bnd2_s, bnd3_s, bnd4_s, bnd5_s, bndR_l, bndR_r, bndX_l, bndX_r, nq_lt, nq_le, nq_inj, nq_add, nq_mul, nq_sub, nq_div, nq_neg1, nq_clamp, nq_ne1, nq_le1, ne1_lt, n1_lt0, n1_lt, n1_ne, nz0, nz1, nz2, nz3, nz4, nz5, nz6, nz8, nz10, nz31, nz32, nz50, nz400, nz800, nz3200, nz20000, nlt_f, nlt_t, nle_f, nle_t, neq_f, neq_t, gi_si_e, gi_si_n, gp_sp_e, gp_sp_n, gr_sr_e, gr_sr_n, gi_sp, gi_sr, gp_si, gp_sr, gr_si, gr_sp, upd_e, upd_n, un_e, un_n, an_sn_e, an_sn_n, an_sm, an_sv, am_sn, am_sm_e, am_sm_n, am_sv, ai_sn, ai_sm, ai_sv_e, ai_sv_n, reduceIte, or_false, false_or, or_true, true_or, or_self, and_true, true_and, and_false, false_and, not_true_eq_false, not_false_eq_true, e]; exact this
theorem sorts_eq (hm : an a 0 ≤ 20000) {t : Nat} (ht : t < 4) {n : Nat} (hn : n ≤ 3200) {τ : St} (hM : MD a τ) (hN : ∀ q, q < n → ∃ j, j < an a 0 ∧ gr τ 12 q = nI j) :
    ∃ W B, f_X11_sorts (nI n) (nI t) τ = some (nI (dif W (gr τ 12) n), sr (sr τ 13 B) 12 W) ∧ seg W 0 n = isrt (ky a t) (seg (gr τ 12) 0 n) ∧ ∀ q, q < n → ∃ j, j < an a 0 ∧ W q = nI j := by
  have c1 := cpb_L hn τ _ (fu := FU) (i := 0) rfl (by unfold FU; omega) (by omega)
  rw [seg_0, wr_nil, sr_id] at c1
  obtain ⟨B, hB⟩ : ∃ z, z = wr (gr τ 13) 0 (seg (gr τ 12) 0 n) := ⟨_, rfl⟩
  rw [← hB] at c1
  have e12 : gr (sr τ 13 B) 12 = gr τ 12 := gr_sr_n _ _ (by decide)
  obtain ⟨W, k1, k2, k3, k4⟩ := sort_L hm ht hn (gr τ 12) n (fu := FU) (i := 1) (τ := sr τ 13 B) (hM.fr rfl (by simp (disch := omega) only [gi_si_e, gi_si_n, gp_sp_e, gp_sp_n, gr_sr_e, gr_sr_n, gi_sp, gi_sr, gp_si, gp_sr, gr_si, gr_sp, upd_e, upd_n, un_e, un_n, an_sn_e, an_sn_n, an_sm, an_sv, am_sn, am_sm_e, am_sm_n, am_sv, ai_sn, ai_sm, ai_sv_e, ai_sv_n, reduceIte, or_false, false_or, or_true, true_or, or_self, and_true, true_and, and_false, false_and, not_true_eq_false, not_false_eq_true]) (by simp (disch := omega) only [gi_si_e, gi_si_n, gp_sp_e, gp_sp_n, gr_sr_e, gr_sr_n, gi_sp, gi_sr, gp_si, gp_sr, gr_si, gr_sp, upd_e, upd_n, un_e, un_n, an_sn_e, an_sn_n, an_sm, an_sv, am_sn, am_sm_e, am_sm_n, am_sv, ai_sn, ai_sm, ai_sv_e, ai_sv_n, reduceIte, or_false, false_or, or_true, true_or, or_self, and_true, true_and, and_false, false_and, not_true_eq_false, not_false_eq_true])) (by omega) (by unfold FU; omega) (by omega) (by omega) (by omega) (by rw [e12]; exact hN) (by rw [e12]; rfl) (by rw [e12]; exact fun _ _ => rfl) (by rw [e12]; exact fun _ _ => rfl)
  have c2 := cnt_L hn (sr (sr τ 13 B) 12 W) _ (fu := FU) (i := 0) rfl (by unfold FU; omega) (by omega)
  rw [gr_sr_e _ _ rfl, gr_sr_n _ _ (show 13 ≠ 12 by decide), gr_sr_e _ _ rfl] at c2
  rw [show dif W B 0 = 0 from rfl] at c2
  refine ⟨W, B, ?_, k2, k4⟩
  unfold f_X11_sorts
  rw [nz0, nz1, c1, bnd_s, k1, bnd_s, c2, bnd_s]
  rw [dif_congr (f' := W) (g' := gr τ 12) (fun _ _ => rfl) fun k hk => by
    have := wr_at (gr τ 13) (gr τ 12) 0 0 n k hk
    rw [Nat.zero_add, ← hB] at this
    exact this]
theorem spl_L {r p n : Nat} (hr : r < 4) (hpn : p + n ≤ 800) (τ : St) : ∀ (d : Nat) {fu i : Nat}, n - i = d → d < fu → i ≤ n →
    f_X11_sortsPart_L3 (nI r) (nI p) (nI (p + n)) fu (nI (p + i)) (sr τ 12 (wr (gr τ 12) 0 (seg (gr τ 4) (800 * r + p) i))) = some (sr τ 12 (wr (gr τ 12) 0 (seg (gr τ 4) (800 * r + p) n))) := by
  intro d
  induction d with
  | zero =>
    intro fu i hd hf hi
    obtain ⟨fu, rfl⟩ : ∃ f, fu = f + 1 := ⟨fu - 1, by omega⟩
    have e : i = n := by omega
    subst e
    unfold f_X11_sortsPart_L3; simp (disch := omega) only [↓bnd_s, ↓bnd2_s, ↓bnd3_s, ↓bnd4_s, ↓bnd5_s, ↓bndR_l, ↓bndR_r, ↓bndX_l, ↓bndX_r, bnd_s, bnd2_s, bnd3_s, bnd4_s, bnd5_s, bndR_l, bndR_r, bndX_l, bndX_r, nq_lt, nq_le, nq_inj, nq_add, nq_mul, nq_sub, nq_div, nq_neg1, nq_clamp, nq_ne1, nq_le1, ne1_lt, n1_lt0, n1_lt, n1_ne, nz0, nz1, nz2, nz3, nz4, nz5, nz6, nz8, nz10, nz31, nz32, nz50, nz400, nz800, nz3200, nz20000, nlt_f, nlt_t, nle_f, nle_t, neq_f, neq_t, gi_si_e, gi_si_n, gp_sp_e, gp_sp_n, gr_sr_e, gr_sr_n, gi_sp, gi_sr, gp_si, gp_sr, gr_si, gr_sp, upd_e, upd_n, un_e, un_n, an_sn_e, an_sn_n, an_sm, an_sv, am_sn, am_sm_e, am_sm_n, am_sv, ai_sn, ai_sm, ai_sv_e, ai_sv_n, reduceIte, or_false, false_or, or_true, true_or, or_self, and_true, true_and, and_false, false_and, not_true_eq_false, not_false_eq_true]
  | succ d ih =>
    intro fu i hd hf hi
    obtain ⟨fu, rfl⟩ : ∃ f, fu = f + 1 := ⟨fu - 1, by omega⟩
    have := ih (fu := fu) (i := i + 1) (by omega) (by omega) (by omega)
    rw [← wr_seg_s, Nat.zero_add, show p + (i + 1) = p + i + 1 by omega] at this
    unfold f_X11_sortsPart_L3
    simp (disch := omega) only [↓bnd_s, ↓bnd2_s, ↓bnd3_s, ↓bnd4_s, ↓bnd5_s, ↓bndR_l, ↓bndR_r, ↓bndX_l, ↓bndX_r, bnd_s, bnd2_s, bnd3_s, bnd4_s, bnd5_s, bndR_l, bndR_r, bndX_l, bndX_r, nq_lt, nq_le, nq_inj, nq_add, nq_mul, nq_sub, nq_div, nq_neg1, nq_clamp, nq_ne1, nq_le1, ne1_lt, n1_lt0, n1_lt, n1_ne, nz0, nz1, nz2, nz3, nz4, nz5, nz6, nz8, nz10, nz31, nz32, nz50, nz400, nz800, nz3200, nz20000, nlt_f, nlt_t, nle_f, nle_t, neq_f, neq_t, gi_si_e, gi_si_n, gp_sp_e, gp_sp_n, gr_sr_e, gr_sr_n, gi_sp, gi_sr, gp_si, gp_sr, gr_si, gr_sp, upd_e, upd_n, un_e, un_n, an_sn_e, an_sn_n, an_sm, an_sv, am_sn, am_sm_e, am_sm_n, am_sv, ai_sn, ai_sm, ai_sv_e, ai_sv_n, reduceIte, or_false, false_or, or_true, true_or, or_self, and_true, true_and, and_false, false_and, not_true_eq_false, not_false_eq_true, sr_sr, Nat.add_sub_cancel_left, ← Nat.add_assoc]
    exact this
theorem spb_L {r p n : Nat} (hr : r < 4) (hpn : p + n ≤ 800) (τ : St) : ∀ (d : Nat) {fu i : Nat}, n - i = d → d < fu → i ≤ n →
    f_X11_sortsPart_L51 (nI r) (nI p) (nI (p + n)) fu (nI (p + i)) (sr τ 4 (wr (gr τ 4) (800 * r + p) (seg (gr τ 12) 0 i))) = some (sr τ 4 (wr (gr τ 4) (800 * r + p) (seg (gr τ 12) 0 n))) := by
  intro d
  induction d with
  | zero =>
    intro fu i hd hf hi
    obtain ⟨fu, rfl⟩ : ∃ f, fu = f + 1 := ⟨fu - 1, by omega⟩
    have e : i = n := by omega
    subst e
    unfold f_X11_sortsPart_L51; simp (disch := omega) only [↓bnd_s, ↓bnd2_s, ↓bnd3_s, ↓bnd4_s, ↓bnd5_s, ↓bndR_l, ↓bndR_r, ↓bndX_l, ↓bndX_r, bnd_s, bnd2_s, bnd3_s, bnd4_s, bnd5_s, bndR_l, bndR_r, bndX_l, bndX_r, nq_lt, nq_le, nq_inj, nq_add, nq_mul, nq_sub, nq_div, nq_neg1, nq_clamp, nq_ne1, nq_le1, ne1_lt, n1_lt0, n1_lt, n1_ne, nz0, nz1, nz2, nz3, nz4, nz5, nz6, nz8, nz10, nz31, nz32, nz50, nz400, nz800, nz3200, nz20000, nlt_f, nlt_t, nle_f, nle_t, neq_f, neq_t, gi_si_e, gi_si_n, gp_sp_e, gp_sp_n, gr_sr_e, gr_sr_n, gi_sp, gi_sr, gp_si, gp_sr, gr_si, gr_sp, upd_e, upd_n, un_e, un_n, an_sn_e, an_sn_n, an_sm, an_sv, am_sn, am_sm_e, am_sm_n, am_sv, ai_sn, ai_sm, ai_sv_e, ai_sv_n, reduceIte, or_false, false_or, or_true, true_or, or_self, and_true, true_and, and_false, false_and, not_true_eq_false, not_false_eq_true]
  | succ d ih =>
    intro fu i hd hf hi
    obtain ⟨fu, rfl⟩ : ∃ f, fu = f + 1 := ⟨fu - 1, by omega⟩
    have := ih (fu := fu) (i := i + 1) (by omega) (by omega) (by omega)
    rw [← wr_seg_s, Nat.zero_add, show p + (i + 1) = p + i + 1 by omega] at this
    unfold f_X11_sortsPart_L51
    simp (disch := omega) only [↓bnd_s, ↓bnd2_s, ↓bnd3_s, ↓bnd4_s, ↓bnd5_s, ↓bndR_l, ↓bndR_r, ↓bndX_l, ↓bndX_r, bnd_s, bnd2_s, bnd3_s, bnd4_s, bnd5_s, bndR_l, bndR_r, bndX_l, bndX_r, nq_lt, nq_le, nq_inj, nq_add, nq_mul, nq_sub, nq_div, nq_neg1, nq_clamp, nq_ne1, nq_le1, ne1_lt, n1_lt0, n1_lt, n1_ne, nz0, nz1, nz2, nz3, nz4, nz5, nz6, nz8, nz10, nz31, nz32, nz50, nz400, nz800, nz3200, nz20000, nlt_f, nlt_t, nle_f, nle_t, neq_f, neq_t, gi_si_e, gi_si_n, gp_sp_e, gp_sp_n, gr_sr_e, gr_sr_n, gi_sp, gi_sr, gp_si, gp_sr, gr_si, gr_sp, upd_e, upd_n, un_e, un_n, an_sn_e, an_sn_n, an_sm, an_sv, am_sn, am_sm_e, am_sm_n, am_sv, ai_sn, ai_sm, ai_sv_e, ai_sv_n, reduceIte, or_false, false_or, or_true, true_or, or_self, and_true, true_and, and_false, false_and, not_true_eq_false, not_false_eq_true, sr_sr, Nat.add_sub_cancel_left, ← Nat.add_assoc]
    exact this
theorem sortsPart_eq (hm : an a 0 ≤ 20000) {t : Nat} (ht : t < 4) {r p e : Nat} (hr : r < 4) (hpe : p ≤ e) (he : e ≤ 800) {τ : St} (hM : MD a τ) (hv : ∀ k, k < e - p → ∃ i, i < an a 0 ∧ gr τ 4 (800 * r + p + k) = nI i) :
    ∃ τ', f_X11_sortsPart (nI r) (nI p) (nI e) (nI t) τ = some (nI (dif (fun k => wr (gr τ 4) (800 * r + p) (isrt (ky a t) (seg (gr τ 4) (800 * r + p) (e - p))) (800 * r + p + k)) (fun k => gr τ 4 (800 * r + p + k)) (e - p)), τ') ∧
      qF (wr (gr τ 4) (800 * r + p) (isrt (ky a t) (seg (gr τ 4) (800 * r + p) (e - p)))) τ τ' := by
  obtain ⟨n, rfl⟩ : ∃ n, e = p + n := ⟨e - p, by omega⟩
  rw [Nat.add_sub_cancel_left] at hv ⊢
  have c1 := spl_L hr he τ _ (fu := FU) (i := 0) rfl (by unfold FU; omega) (by omega)
  rw [seg_0, wr_nil, sr_id, Nat.add_zero p] at c1
  obtain ⟨X, hX⟩ : ∃ z, z = wr (gr τ 12) 0 (seg (gr τ 4) (800 * r + p) n) := ⟨_, rfl⟩
  rw [← hX] at c1
  have hat : ∀ k, k < n → X k = gr τ 4 (800 * r + p + k) := fun k hk => by
    have := wr_at (gr τ 12) (gr τ 4) 0 (800 * r + p) n k hk
    rw [Nat.zero_add, ← hX] at this
    exact this
  have hseg : seg X 0 n = seg (gr τ 4) (800 * r + p) n := seg_congr fun k hk => by rw [Nat.zero_add]; exact hat k hk
  have e12 : gr (sr τ 12 X) 12 = X := gr_sr_e _ _ rfl
  obtain ⟨W, B, k1, k2, k3⟩ := sorts_eq hm ht (n := n) (by omega) (τ := sr τ 12 X) (hM.fr rfl (by simp (disch := omega) only [gi_si_e, gi_si_n, gp_sp_e, gp_sp_n, gr_sr_e, gr_sr_n, gi_sp, gi_sr, gp_si, gp_sr, gr_si, gr_sp, upd_e, upd_n, un_e, un_n, an_sn_e, an_sn_n, an_sm, an_sv, am_sn, am_sm_e, am_sm_n, am_sv, ai_sn, ai_sm, ai_sv_e, ai_sv_n, reduceIte, or_false, false_or, or_true, true_or, or_self, and_true, true_and, and_false, false_and, not_true_eq_false, not_false_eq_true]) (by simp (disch := omega) only [gi_si_e, gi_si_n, gp_sp_e, gp_sp_n, gr_sr_e, gr_sr_n, gi_sp, gi_sr, gp_si, gp_sr, gr_si, gr_sp, upd_e, upd_n, un_e, un_n, an_sn_e, an_sn_n, an_sm, an_sv, am_sn, am_sm_e, am_sm_n, am_sv, ai_sn, ai_sm, ai_sv_e, ai_sv_n, reduceIte, or_false, false_or, or_true, true_or, or_self, and_true, true_and, and_false, false_and, not_true_eq_false, not_false_eq_true])) (fun q hq => by rw [e12, hat q hq]; exact hv q hq)
  rw [e12] at k1 k2
  rw [hseg] at k2
  have c3 := spb_L hr he (sr (sr (sr τ 12 X) 13 B) 12 W) _ (fu := FU) (i := 0) rfl (by unfold FU; omega) (by omega)
  rw [gr_sr_e _ _ rfl, show gr (sr (sr (sr τ 12 X) 13 B) 12 W) 4 = gr τ 4 by simp (disch := omega) only [gi_si_e, gi_si_n, gp_sp_e, gp_sp_n, gr_sr_e, gr_sr_n, gi_sp, gi_sr, gp_si, gp_sr, gr_si, gr_sp, upd_e, upd_n, un_e, un_n, an_sn_e, an_sn_n, an_sm, an_sv, am_sn, am_sm_e, am_sm_n, am_sv, ai_sn, ai_sm, ai_sv_e, ai_sv_n, reduceIte, or_false, false_or, or_true, true_or, or_self, and_true, true_and, and_false, false_and, not_true_eq_false, not_false_eq_true], seg_0, wr_nil, Nat.add_zero p, k2, show sr (sr (sr (sr τ 12 X) 13 B) 12 W) 4 (gr τ 4) = sr (sr (sr τ 12 X) 13 B) 12 W by
    have := sr_id (sr (sr (sr τ 12 X) 13 B) 12 W) 4
    rw [show gr (sr (sr (sr τ 12 X) 13 B) 12 W) 4 = gr τ 4 by simp (disch := omega) only [gi_si_e, gi_si_n, gp_sp_e, gp_sp_n, gr_sr_e, gr_sr_n, gi_sp, gi_sr, gp_si, gp_sr, gr_si, gr_sp, upd_e, upd_n, un_e, un_n, an_sn_e, an_sn_n, an_sm, an_sv, am_sn, am_sm_e, am_sm_n, am_sv, ai_sn, ai_sm, ai_sv_e, ai_sv_n, reduceIte, or_false, false_or, or_true, true_or, or_self, and_true, true_and, and_false, false_and, not_true_eq_false, not_false_eq_true]] at this
    exact this] at c3
  refine ⟨sr (sr (sr (sr τ 12 X) 13 B) 12 W) 4 (wr (gr τ 4) (800 * r + p) (isrt (ky a t) (seg (gr τ 4) (800 * r + p) n))), ?_, fun k => rfl, gr_sr_e _ _ rfl, fun i h1 h2 h3 => ?_⟩
  · unfold f_X11_sortsPart
    rw [c1, bnd_s, nq_sub (by omega), Nat.add_sub_cancel_left, k1, bnd2_s, c3, bnd_s]
    rw [dif_congr (f' := fun k => wr (gr τ 4) (800 * r + p) (isrt (ky a t) (seg (gr τ 4) (800 * r + p) n)) (800 * r + p + k)) (g' := fun k => gr τ 4 (800 * r + p + k)) (fun k hk => ?_) hat]
    rw [← k2]
    have := wr_at (gr τ 4) W (800 * r + p) 0 n k hk
    rw [Nat.zero_add] at this
    exact this.symm
  · rw [gr_sr_n _ _ h1, gr_sr_n _ _ h2, gr_sr_n _ _ h3, gr_sr_n _ _ h2]
end RS
