def SO (σ : St) (m m' : Nat) : Prop := gp σ 57 = m ∧ gp σ 58 = m' ∧ ((m = 8 ∧ m' = 9) ∨ (m = 9 ∧ m' = 8))
def sF (σ σ' : St) : Prop := (∀ k, gi σ' k = gi σ k) ∧ (∀ k, k ≠ 57 → k ≠ 58 → gp σ' k = gp σ k) ∧ ∀ j, j ≠ 8 → j ≠ 9 → gr σ' j = gr σ j
theorem sF.refl (σ : St) : sF σ σ := ⟨fun _ => rfl, fun _ _ _ => rfl, fun _ _ _ => rfl⟩
theorem sF.trans {σ σ' σ2 : St} (h : sF σ σ') (h2 : sF σ' σ2) : sF σ σ2 := ⟨fun k => (h2.1 k).trans (h.1 k), fun k a b => (h2.2.1 k a b).trans (h.2.1 k a b), fun j a b => (h2.2.2 j a b).trans (h.2.2 j a b)⟩
theorem SO.m {σ : St} {m m' : Nat} (h : SO σ m m') : (m = 8 ∨ m = 9) = True := eq_true (by have := h.2.2; omega)
theorem SO.m' {σ : St} {m m' : Nat} (h : SO σ m m') : (m' = 8 ∨ m' = 9) = True := eq_true (by have := h.2.2; omega)
theorem SO.ne {σ : St} {m m' : Nat} (h : SO σ m m') : m ≠ m' := by have := h.2.2; omega
theorem CD.fr {a : AS} {σ σ' : St} (h : CD a σ) (h1 : gi σ' 10 = gi σ 10) (h2 : gr σ' 2 = gr σ 2) (h3 : gr σ' 3 = gr σ 3) : CD a σ' := by
  unfold CD at h ⊢
  rw [h1, h2, h3]; exact h
theorem CD.sf {a : AS} {σ σ' : St} (h : CD a σ) (f : sF σ σ') : CD a σ' := h.fr (f.1 10) (f.2.2 2 (by decide) (by decide)) (f.2.2 3 (by decide) (by decide))
section MG
variable {a : AS}
theorem merge_L (hm : an a 0 ≤ 20000) {t : Nat} (ht : t < 4) {mid en m m' : Nat} (hme : mid ≤ en) (he : en ≤ 3200) : ∀ (d : Nat) {fu l r p c : Nat} {σ : St}, CD a σ → SO σ m m' → (∀ q, q < en → ∃ i, i < an a 0 ∧ gr σ m q = nI i) → en - p = d → p + mid = l + r → l ≤ mid → mid ≤ r → r ≤ en → d < fu →
    f_X8_merge_L12 (nI mid) (nI en) (oNo t) fu (nI c) (nI l) (nI r) (nI p) σ = some (nI (c + mrgW (ky a t) (seg (gr σ m) l (mid - l)) (seg (gr σ m) r (en - r))), sr σ m' (wr (gr σ m') p (mrg (ky a t) (seg (gr σ m) l (mid - l)) (seg (gr σ m) r (en - r))))) := by
  intro d
  induction d with
  | zero =>
    intro fu l r p c σ hC hS hv hd hp hl hr hre hf
    obtain ⟨fu, rfl⟩ : ∃ f, fu = f + 1 := ⟨fu - 1, by omega⟩
    rw [show mid - l = 0 by omega, show en - r = 0 by omega, seg_0, seg_0, mrg_nil_l, mrgW_nil_l, wr_nil, sr_id, Nat.add_zero]
    unfold f_X8_merge_L12; simp (disch := omega) only [↓bnd_s, ↓bnd2_s, ↓bnd3_s, ↓bnd4_s, ↓bnd5_s, ↓bndR_l, ↓bndR_r, ↓bndX_l, ↓bndX_r, ↓bndQ_s, ↓bndQ2_s, bndQ_s, bndQ2_s, bnd_s, bnd2_s, bnd3_s, bnd4_s, bnd5_s, bndR_l, bndR_r, bndX_l, bndX_r, nq_lt, nq_le, nq_inj, nq_add, nq_mul, nq_sub, nq_div, nq_neg1, nq_clamp, nq_ne1, nq_le1, ne1_lt, n1_lt0, n1_lt, n1_ne, nz0, nz1, nz2, nz3, nz4, nz5, nz6, nz8, nz10, nz31, nz32, nz50, nz400, nz800, nz3200, nz20000, nlt_f, nlt_t, nle_f, nle_t, neq_f, neq_t, gi_si_e, gi_si_n, gp_sp_e, gp_sp_n, gr_sr_e, gr_sr_n, gi_sp, gi_sr, gp_si, gp_sr, gr_si, gr_sp, upd_e, upd_n, un_e, un_n, an_sn_e, an_sn_n, an_sm, an_sv, am_sn, am_sm_e, am_sm_n, am_sv, ai_sn, ai_sm, ai_sv_e, ai_sv_n, reduceIte, or_false, false_or, or_true, true_or, or_self, and_true, true_and, and_false, false_and, not_true_eq_false, not_false_eq_true, Nat.add_zero]
  | succ d ih =>
    intro fu l r p c σ hC hS hv hd hp hl hr hre hf
    obtain ⟨fu, rfl⟩ : ∃ f, fu = f + 1 := ⟨fu - 1, by omega⟩
    have hne := hS.ne
    have hA := hS.m
    have hB := hS.m'
    -- one step, with the mark x
    have step : ∀ (x : Int32) (l' r' c' : Nat) (L2 : List Int32) (w2 : Nat), l' + r' = l + r + 1 → l' ≤ mid → mid ≤ r' → r' ≤ en → c' + mrgW (ky a t) (seg (gr σ m) l' (mid - l')) (seg (gr σ m) r' (en - r')) = c + w2 → L2 = x :: mrg (ky a t) (seg (gr σ m) l' (mid - l')) (seg (gr σ m) r' (en - r')) →
        f_X8_merge_L12 (nI mid) (nI en) (oNo t) fu (nI c') (nI l') (nI r') (nI (p + 1)) (sr σ m' (upd (gr σ m') p x)) = some (nI (c + w2), sr σ m' (wr (gr σ m') p L2)) := by
      intro x l' r' c' L2 w2 h1 h2 h3 h4 h5 h6
      have hS' : SO (sr σ m' (upd (gr σ m') p x)) m m' := hS
      have e1 : gr (sr σ m' (upd (gr σ m') p x)) m = gr σ m := gr_sr_n _ _ hne
      have := ih (fu := fu) (l := l') (r := r') (p := p + 1) (c := c') (σ := sr σ m' (upd (gr σ m') p x)) (hC.fr rfl (by have := hS.2.2; simp (disch := omega) only [gi_si_e, gi_si_n, gp_sp_e, gp_sp_n, gr_sr_e, gr_sr_n, gi_sp, gi_sr, gp_si, gp_sr, gr_si, gr_sp, upd_e, upd_n, un_e, un_n, an_sn_e, an_sn_n, an_sm, an_sv, am_sn, am_sm_e, am_sm_n, am_sv, ai_sn, ai_sm, ai_sv_e, ai_sv_n, reduceIte, or_false, false_or, or_true, true_or, or_self, and_true, true_and, and_false, false_and, not_true_eq_false, not_false_eq_true]) (by have := hS.2.2; simp (disch := omega) only [gi_si_e, gi_si_n, gp_sp_e, gp_sp_n, gr_sr_e, gr_sr_n, gi_sp, gi_sr, gp_si, gp_sr, gr_si, gr_sp, upd_e, upd_n, un_e, un_n, an_sn_e, an_sn_n, an_sm, an_sv, am_sn, am_sm_e, am_sm_n, am_sv, ai_sn, ai_sm, ai_sv_e, ai_sv_n, reduceIte, or_false, false_or, or_true, true_or, or_self, and_true, true_and, and_false, false_and, not_true_eq_false, not_false_eq_true])) hS' (by rw [e1]; exact hv) (by omega) (by omega) h2 h3 h4 (by omega)
      rw [e1, gr_sr_e _ _ rfl, sr_sr, wr_cons, h5, ← h6] at this
      exact this
    by_cases e1 : mid ≤ l
    · -- the left side is empty
      have s1 := step (gr σ m r) l (r + 1) (c + (mid - l)) (mrg (ky a t) (seg (gr σ m) l (mid - l)) (seg (gr σ m) r (en - r))) (mrgW (ky a t) (seg (gr σ m) l (mid - l)) (seg (gr σ m) r (en - r))) (by omega) hl (by omega) (by omega)
        (by rw [show mid - l = 0 by omega, seg_0, mrgW_nil_l, mrgW_nil_l])
        (by rw [show mid - l = 0 by omega, seg_0, mrg_nil_l, mrg_nil_l, show en - r = en - (r + 1) + 1 by omega, seg_s])
      unfold f_X8_merge_L12
      simp (disch := omega) only [↓bnd_s, ↓bnd2_s, ↓bnd3_s, ↓bnd4_s, ↓bnd5_s, ↓bndR_l, ↓bndR_r, ↓bndX_l, ↓bndX_r, ↓bndQ_s, ↓bndQ2_s, bndQ_s, bndQ2_s, bnd_s, bnd2_s, bnd3_s, bnd4_s, bnd5_s, bndR_l, bndR_r, bndX_l, bndX_r, nq_lt, nq_le, nq_inj, nq_add, nq_mul, nq_sub, nq_div, nq_neg1, nq_clamp, nq_ne1, nq_le1, ne1_lt, n1_lt0, n1_lt, n1_ne, nz0, nz1, nz2, nz3, nz4, nz5, nz6, nz8, nz10, nz31, nz32, nz50, nz400, nz800, nz3200, nz20000, nlt_f, nlt_t, nle_f, nle_t, neq_f, neq_t, gi_si_e, gi_si_n, gp_sp_e, gp_sp_n, gr_sr_e, gr_sr_n, gi_sp, gi_sr, gp_si, gp_sr, gr_si, gr_sp, upd_e, upd_n, un_e, un_n, an_sn_e, an_sn_n, an_sm, an_sv, am_sn, am_sm_e, am_sm_n, am_sv, ai_sn, ai_sm, ai_sv_e, ai_sv_n, reduceIte, or_false, false_or, or_true, true_or, or_self, and_true, true_and, and_false, false_and, not_true_eq_false, not_false_eq_true, hS.1, hS.2.1, hA, hB, e1]
      exact s1
    · by_cases e2 : en ≤ r
      · have s1 := step (gr σ m l) (l + 1) r c (mrg (ky a t) (seg (gr σ m) l (mid - l)) (seg (gr σ m) r (en - r))) (mrgW (ky a t) (seg (gr σ m) l (mid - l)) (seg (gr σ m) r (en - r))) (by omega) (by omega) hr hre
          (by rw [show en - r = 0 by omega, seg_0, mrgW_nil_r, mrgW_nil_r])
          (by rw [show en - r = 0 by omega, seg_0, mrg_nil_r, mrg_nil_r, show mid - l = mid - (l + 1) + 1 by omega, seg_s])
        unfold f_X8_merge_L12
        simp (disch := omega) only [↓bnd_s, ↓bnd2_s, ↓bnd3_s, ↓bnd4_s, ↓bnd5_s, ↓bndR_l, ↓bndR_r, ↓bndX_l, ↓bndX_r, ↓bndQ_s, ↓bndQ2_s, bndQ_s, bndQ2_s, bnd_s, bnd2_s, bnd3_s, bnd4_s, bnd5_s, bndR_l, bndR_r, bndX_l, bndX_r, nq_lt, nq_le, nq_inj, nq_add, nq_mul, nq_sub, nq_div, nq_neg1, nq_clamp, nq_ne1, nq_le1, ne1_lt, n1_lt0, n1_lt, n1_ne, nz0, nz1, nz2, nz3, nz4, nz5, nz6, nz8, nz10, nz31, nz32, nz50, nz400, nz800, nz3200, nz20000, nlt_f, nlt_t, nle_f, nle_t, neq_f, neq_t, gi_si_e, gi_si_n, gp_sp_e, gp_sp_n, gr_sr_e, gr_sr_n, gi_sp, gi_sr, gp_si, gp_sr, gr_si, gr_sp, upd_e, upd_n, un_e, un_n, an_sn_e, an_sn_n, an_sm, an_sv, am_sn, am_sm_e, am_sm_n, am_sv, ai_sn, ai_sm, ai_sv_e, ai_sv_n, reduceIte, or_false, false_or, or_true, true_or, or_self, and_true, true_and, and_false, false_and, not_true_eq_false, not_false_eq_true, hS.1, hS.2.1, hA, hB, e1, e2]
        exact s1
      · obtain ⟨i, hi, ei⟩ := hv l (by omega)
        obtain ⟨j, hj, ej⟩ := hv r (by omega)
        have hw := wrong_eq (t := t) hC hm ht hi hj
        by_cases e3 : ky a t (gr σ m r) < ky a t (gr σ m l)
        · have s1 := step (gr σ m r) l (r + 1) (c + (mid - l)) (mrg (ky a t) (seg (gr σ m) l (mid - l)) (seg (gr σ m) r (en - r))) (mrgW (ky a t) (seg (gr σ m) l (mid - l)) (seg (gr σ m) r (en - r))) (by omega) hl (by omega) (by omega)
            (by rw [show mid - l = mid - (l + 1) + 1 by omega, show en - r = en - (r + 1) + 1 by omega, seg_s (gr σ m) l, seg_s (gr σ m) r, mrgW_cc, if_pos e3, seg_len]; omega)
            (by rw [show mid - l = mid - (l + 1) + 1 by omega, show en - r = en - (r + 1) + 1 by omega, seg_s (gr σ m) l, seg_s (gr σ m) r, mrg_cc, if_pos e3])
          rw [ei, ej] at e3
          rw [if_pos e3] at hw
          unfold f_X8_merge_L12
          simp (disch := omega) only [↓bnd_s, ↓bnd2_s, ↓bnd3_s, ↓bnd4_s, ↓bnd5_s, ↓bndR_l, ↓bndR_r, ↓bndX_l, ↓bndX_r, ↓bndQ_s, ↓bndQ2_s, bndQ_s, bndQ2_s, bnd_s, bnd2_s, bnd3_s, bnd4_s, bnd5_s, bndR_l, bndR_r, bndX_l, bndX_r, nq_lt, nq_le, nq_inj, nq_add, nq_mul, nq_sub, nq_div, nq_neg1, nq_clamp, nq_ne1, nq_le1, ne1_lt, n1_lt0, n1_lt, n1_ne, nz0, nz1, nz2, nz3, nz4, nz5, nz6, nz8, nz10, nz31, nz32, nz50, nz400, nz800, nz3200, nz20000, nlt_f, nlt_t, nle_f, nle_t, neq_f, neq_t, gi_si_e, gi_si_n, gp_sp_e, gp_sp_n, gr_sr_e, gr_sr_n, gi_sp, gi_sr, gp_si, gp_sr, gr_si, gr_sp, upd_e, upd_n, un_e, un_n, an_sn_e, an_sn_n, an_sm, an_sv, am_sn, am_sm_e, am_sm_n, am_sv, ai_sn, ai_sm, ai_sv_e, ai_sv_n, reduceIte, or_false, false_or, or_true, true_or, or_self, and_true, true_and, and_false, false_and, not_true_eq_false, not_false_eq_true, hS.1, hS.2.1, hA, hB, e1, e2, ei, ej, hw]
          rw [ej] at s1
          exact s1
        · have s1 := step (gr σ m l) (l + 1) r c (mrg (ky a t) (seg (gr σ m) l (mid - l)) (seg (gr σ m) r (en - r))) (mrgW (ky a t) (seg (gr σ m) l (mid - l)) (seg (gr σ m) r (en - r))) (by omega) (by omega) hr hre
            (by rw [show mid - l = mid - (l + 1) + 1 by omega, show en - r = en - (r + 1) + 1 by omega, seg_s (gr σ m) l, seg_s (gr σ m) r, mrgW_cc, if_neg e3])
            (by rw [show mid - l = mid - (l + 1) + 1 by omega, show en - r = en - (r + 1) + 1 by omega, seg_s (gr σ m) l, seg_s (gr σ m) r, mrg_cc, if_neg e3])
          rw [ei, ej] at e3
          rw [if_neg e3] at hw
          unfold f_X8_merge_L12
          simp (disch := omega) only [↓bnd_s, ↓bnd2_s, ↓bnd3_s, ↓bnd4_s, ↓bnd5_s, ↓bndR_l, ↓bndR_r, ↓bndX_l, ↓bndX_r, ↓bndQ_s, ↓bndQ2_s, bndQ_s, bndQ2_s, bnd_s, bnd2_s, bnd3_s, bnd4_s, bnd5_s, bndR_l, bndR_r, bndX_l, bndX_r, nq_lt, nq_le, nq_inj, nq_add, nq_mul, nq_sub, nq_div, nq_neg1, nq_clamp, nq_ne1, nq_le1, ne1_lt, n1_lt0, n1_lt, n1_ne, nz0, nz1, nz2, nz3, nz4, nz5, nz6, nz8, nz10, nz31, nz32, nz50, nz400, nz800, nz3200, nz20000, nlt_f, nlt_t, nle_f, nle_t, neq_f, neq_t, gi_si_e, gi_si_n, gp_sp_e, gp_sp_n, gr_sr_e, gr_sr_n, gi_sp, gi_sr, gp_si, gp_sr, gr_si, gr_sp, upd_e, upd_n, un_e, un_n, an_sn_e, an_sn_n, an_sm, an_sv, am_sn, am_sm_e, am_sm_n, am_sv, ai_sn, ai_sm, ai_sv_e, ai_sv_n, reduceIte, or_false, false_or, or_true, true_or, or_self, and_true, true_and, and_false, false_and, not_true_eq_false, not_false_eq_true, hS.1, hS.2.1, hA, hB, e1, e2, ei, ej, hw]
          rw [ei] at s1
          exact s1
theorem merge_eq (hm : an a 0 ≤ 20000) {t : Nat} (ht : t < 4) {s mid en m m' : Nat} {σ : St} (hsm : s ≤ mid) (hme : mid ≤ en) (he : en ≤ 3200) (hC : CD a σ) (hS : SO σ m m') (hv : ∀ q, q < en → ∃ i, i < an a 0 ∧ gr σ m q = nI i) :
    f_X8_merge (nI s) (nI mid) (nI en) (oNo t) σ = some (nI (mrgW (ky a t) (seg (gr σ m) s (mid - s)) (seg (gr σ m) mid (en - mid))), sr σ m' (wr (gr σ m') s (mrg (ky a t) (seg (gr σ m) s (mid - s)) (seg (gr σ m) mid (en - mid))))) := by
  unfold f_X8_merge
  have := merge_L hm ht hme he _ (fu := FU) (l := s) (r := mid) (p := s) (c := 0) hC hS hv rfl (by omega) hsm (Nat.le_refl _) hme (by unfold FU; omega)
  rw [Nat.zero_add] at this
  rw [nz0, this]; rfl
end MG
