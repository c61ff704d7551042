/-! the law's sorting of all rows, its moves, its place for a card -/
section LY
variable {a : AS} {R : QR} {σ ρ : St}
theorem GDn.ext {g n m : Nat} {L L2 : List Int32} (h : GDn a g L n ρ) (hm : m ≤ n) (e : ∀ k, k < m → L2[k]? = L[k]?) : GDn a g L2 m ρ := fun k x w hk hw hx => h k x w (by omega) hw (by rw [← e k hk]; exact hx)
theorem cpA_L {g g2 r : Nat} {μ : Nat → Int32} (hne : g2 ≠ g) (hr : r < 4) (h8 : (R r).length ≤ 800) (ho : oF R r + (R r).length ≤ 3200) (hμ : μ r = nI (R r).length) : ∀ (d : Nat) {fu i : Nat} {ρ : St}, GD a g2 (R r) ρ → (R r).length - i = d → d < fu → i ≤ (R r).length → GDn a g (aL R (r + 1)) (oF R r + i) ρ → ∃ ρ', f_L_sortsAll_L32 g g2 (nI (oF R r)) (nI r) μ fu (nI i) ρ = some ρ' ∧ GDn a g (aL R (r + 1)) (oF R (r + 1)) ρ' ∧ gF g ρ ρ' := by
  intro d
  induction d with
  | zero =>
    intro fu i ρ h hd hf hi hG
    obtain ⟨fu, rfl⟩ : ∃ f, fu = f + 1 := ⟨fu - 1, by omega⟩
    have e : i = (R r).length := by omega
    subst e
    refine ⟨ρ, ?_, by rw [oF_s]; exact hG, gF.refl _ _⟩
    unfold f_L_sortsAll_L32; simp (disch := omega) only [↓bnd_s, ↓bnd2_s, ↓bnd3_s, ↓bnd4_s, ↓bnd5_s, ↓bndR_l, ↓bndR_r, ↓bndX_l, ↓bndX_r, ↓bndQ_s, ↓bndQ2_s, bndQ_s, bndQ2_s, bnd_s, bnd2_s, bnd3_s, bnd4_s, bnd5_s, bndR_l, bndR_r, bndX_l, bndX_r, nq_lt, nq_le, nq_inj, nq_add, nq_mul, nq_sub, nq_div, nq_neg1, nq_clamp, nq_ne1, nq_le1, ne1_lt, n1_lt0, n1_lt, n1_ne, nz0, nz1, nz2, nz3, nz4, nz5, nz6, nz8, nz10, nz31, nz32, nz50, nz400, nz800, nz3200, nz20000, nlt_f, nlt_t, nle_f, nle_t, neq_f, neq_t, gi_si_e, gi_si_n, gp_sp_e, gp_sp_n, gr_sr_e, gr_sr_n, gi_sp, gi_sr, gp_si, gp_sr, gr_si, gr_sp, upd_e, upd_n, un_e, un_n, an_sn_e, an_sn_n, an_sm, an_sv, am_sn, am_sm_e, am_sm_n, am_sv, ai_sn, ai_sm, ai_sv_e, ai_sv_n, reduceIte, or_false, false_or, or_true, true_or, or_self, and_true, true_and, and_false, false_and, not_true_eq_false, not_false_eq_true, hμ]
  | succ d ih =>
    intro fu i ρ h hd hf hi hG
    obtain ⟨fu, rfl⟩ : ∃ f, fu = f + 1 := ⟨fu - 1, by omega⟩
    have hx := gL_at (L := R r) (k := i) (by omega)
    have hx2 := aL_get R (k := r) (q := i) (by omega) (r + 1) (by omega)
    rw [hx] at hx2
    have cp := L_copies' (a := a) (g := g2) (g' := g) (i := i) (k := oF R r + i) hne (by omega) (by omega) (fun w hw => h i _ w (by omega) hw hx)
    obtain ⟨ρ', k1, k2, k3⟩ := ih (fu := fu) (i := i + 1) (h.gf set3_F hne) (by omega) (by omega) (by omega) (hG.put hx2)
    refine ⟨ρ', ?_, k2, set3_F.trans k3⟩
    unfold f_L_sortsAll_L32; simp (disch := omega) only [↓bnd_s, ↓bnd2_s, ↓bnd3_s, ↓bnd4_s, ↓bnd5_s, ↓bndR_l, ↓bndR_r, ↓bndX_l, ↓bndX_r, ↓bndQ_s, ↓bndQ2_s, bndQ_s, bndQ2_s, bnd_s, bnd2_s, bnd3_s, bnd4_s, bnd5_s, bndR_l, bndR_r, bndX_l, bndX_r, nq_lt, nq_le, nq_inj, nq_add, nq_mul, nq_sub, nq_div, nq_neg1, nq_clamp, nq_ne1, nq_le1, ne1_lt, n1_lt0, n1_lt, n1_ne, nz0, nz1, nz2, nz3, nz4, nz5, nz6, nz8, nz10, nz31, nz32, nz50, nz400, nz800, nz3200, nz20000, nlt_f, nlt_t, nle_f, nle_t, neq_f, neq_t, gi_si_e, gi_si_n, gp_sp_e, gp_sp_n, gr_sr_e, gr_sr_n, gi_sp, gi_sr, gp_si, gp_sr, gr_si, gr_sp, upd_e, upd_n, un_e, un_n, an_sn_e, an_sn_n, an_sm, an_sv, am_sn, am_sm_e, am_sm_n, am_sv, ai_sn, ai_sm, ai_sv_e, ai_sv_n, reduceIte, or_false, false_or, or_true, true_or, or_self, and_true, true_and, and_false, false_and, not_true_eq_false, not_false_eq_true, hμ, cp]; exact k1
theorem seeA_L (h : qIN a R σ) {g g2 : Nat} (hne : g2 ≠ g) : ∀ (d : Nat) {fu r : Nat} {ρ : St} {μ : Nat → Int32}, 4 - r = d → d < fu → r ≤ 4 → GDn a g (aL R r) (oF R r) ρ → (∀ i, i < r → μ i = nI (R i).length) →
    ∃ (ρ' : St) (μ' : Nat → Int32), f_L_sortsAll_L11 g g2 σ fu (nI (oF R r)) (nI r) ρ μ = some (nI (oF R 4), ρ', μ') ∧ GDn a g (aL R 4) (oF R 4) ρ' ∧ ∀ i, i < 4 → μ' i = nI (R i).length := by
  intro d
  induction d with
  | zero =>
    intro fu r ρ μ hd hf hr hG hμ
    obtain ⟨fu, rfl⟩ : ∃ f, fu = f + 1 := ⟨fu - 1, by omega⟩
    have e : r = 4 := by omega
    subst e
    exact ⟨ρ, μ, by unfold f_L_sortsAll_L11; simp (disch := omega) only [↓bnd_s, ↓bnd2_s, ↓bnd3_s, ↓bnd4_s, ↓bnd5_s, ↓bndR_l, ↓bndR_r, ↓bndX_l, ↓bndX_r, ↓bndQ_s, ↓bndQ2_s, bndQ_s, bndQ2_s, bnd_s, bnd2_s, bnd3_s, bnd4_s, bnd5_s, bndR_l, bndR_r, bndX_l, bndX_r, nq_lt, nq_le, nq_inj, nq_add, nq_mul, nq_sub, nq_div, nq_neg1, nq_clamp, nq_ne1, nq_le1, ne1_lt, n1_lt0, n1_lt, n1_ne, nz0, nz1, nz2, nz3, nz4, nz5, nz6, nz8, nz10, nz31, nz32, nz50, nz400, nz800, nz3200, nz20000, nlt_f, nlt_t, nle_f, nle_t, neq_f, neq_t, gi_si_e, gi_si_n, gp_sp_e, gp_sp_n, gr_sr_e, gr_sr_n, gi_sp, gi_sr, gp_si, gp_sr, gr_si, gr_sp, upd_e, upd_n, un_e, un_n, an_sn_e, an_sn_n, an_sm, an_sv, am_sn, am_sm_e, am_sm_n, am_sv, ai_sn, ai_sm, ai_sv_e, ai_sv_n, reduceIte, or_false, false_or, or_true, true_or, or_self, and_true, true_and, and_false, false_and, not_true_eq_false, not_false_eq_true], hG, hμ⟩
  | succ d ih =>
    intro fu r ρ μ hd hf hr hG hμ
    obtain ⟨fu, rfl⟩ : ∃ f, fu = f + 1 := ⟨fu - 1, by omega⟩
    have hr4 : r < 4 := by omega
    have hn := h.len hr4
    have ho := oF_le h (r := r) (by omega)
    obtain ⟨ρ1, s1, s2, s3, s4⟩ := L_sees h hr4 g2 ρ
    obtain ⟨μ1, hμ1⟩ : ∃ z, z = upd μ r (nI (R r).length) := ⟨_, rfl⟩
    have m1 : μ1 r = nI (R r).length := by rw [hμ1, upd_e _ _ rfl]
    obtain ⟨ρ2, c1, c2, c3⟩ := cpA_L (a := a) (R := R) (g := g) (g2 := g2) (r := r) (μ := μ1) hne hr4 hn (by omega) m1 _ (fu := FU) (i := 0) s2 rfl (by unfold FU; omega) (Nat.zero_le _) (by
      rw [Nat.add_zero]
      refine GDn.ext (L := aL R r) (n := oF R r) (hG.gf s3 (Ne.symm hne)) (Nat.le_refl _) fun k hk => ?_
      rw [aL_s, List.getElem?_append_left (by rw [aL_len]; exact hk)])
    obtain ⟨ρ', μ', k1, k2, k3⟩ := ih (fu := fu) (r := r + 1) (ρ := ρ2) (μ := μ1) (by omega) (by omega) (by omega) c2 (fun i hi => by
      by_cases e : i = r
      · rw [e, m1]
      · rw [hμ1, upd_n _ _ e]; exact hμ i (by omega))
    rw [oF_s] at k1
    refine ⟨ρ', μ', ?_, k2, k3⟩
    unfold f_L_sortsAll_L11
    simp (disch := omega) only [↓bnd_s, ↓bnd2_s, ↓bnd3_s, ↓bnd4_s, ↓bnd5_s, ↓bndR_l, ↓bndR_r, ↓bndX_l, ↓bndX_r, ↓bndQ_s, ↓bndQ2_s, bndQ_s, bndQ2_s, bnd_s, bnd2_s, bnd3_s, bnd4_s, bnd5_s, bndR_l, bndR_r, bndX_l, bndX_r, nq_lt, nq_le, nq_inj, nq_add, nq_mul, nq_sub, nq_div, nq_neg1, nq_clamp, nq_ne1, nq_le1, ne1_lt, n1_lt0, n1_lt, n1_ne, nz0, nz1, nz2, nz3, nz4, nz5, nz6, nz8, nz10, nz31, nz32, nz50, nz400, nz800, nz3200, nz20000, nlt_f, nlt_t, nle_f, nle_t, neq_f, neq_t, gi_si_e, gi_si_n, gp_sp_e, gp_sp_n, gr_sr_e, gr_sr_n, gi_sp, gi_sr, gp_si, gp_sr, gr_si, gr_sp, upd_e, upd_n, un_e, un_n, an_sn_e, an_sn_n, an_sm, an_sv, am_sn, am_sm_e, am_sm_n, am_sv, ai_sn, ai_sm, ai_sv_e, ai_sv_n, reduceIte, or_false, false_or, or_true, true_or, or_self, and_true, true_and, and_false, false_and, not_true_eq_false, not_false_eq_true, s1, ← hμ1, c1, m1]
    exact k1
theorem chkA_L {g' g2 r n s : Nat} {μ : Nat → Int32} {S : List Int32} (hr : r < 4) (hn : n ≤ 800) (hs : s + n ≤ S.length) (hS : S.length ≤ 3200) (hμ : μ r = nI n) (h1 : GD a g' S ρ) (h2 : GD a g2 ((S.drop s).take n) ρ) : ∀ (d : Nat) {fu i : Nat}, n - i = d → d < fu → i ≤ n → f_L_sortsAll_L147 g' g2 (nI s) (nI r) ρ μ fu (nI 1) (nI i) = some (nI 1) := by
  have hl : ((S.drop s).take n).length = n := by rw [List.length_take, List.length_drop]; omega
  intro d
  induction d with
  | zero =>
    intro fu i hd hf hi
    obtain ⟨fu, rfl⟩ : ∃ f, fu = f + 1 := ⟨fu - 1, by omega⟩
    unfold f_L_sortsAll_L147; simp (disch := omega) only [↓bnd_s, ↓bnd2_s, ↓bnd3_s, ↓bnd4_s, ↓bnd5_s, ↓bndR_l, ↓bndR_r, ↓bndX_l, ↓bndX_r, ↓bndQ_s, ↓bndQ2_s, bndQ_s, bndQ2_s, bnd_s, bnd2_s, bnd3_s, bnd4_s, bnd5_s, bndR_l, bndR_r, bndX_l, bndX_r, nq_lt, nq_le, nq_inj, nq_add, nq_mul, nq_sub, nq_div, nq_neg1, nq_clamp, nq_ne1, nq_le1, ne1_lt, n1_lt0, n1_lt, n1_ne, nz0, nz1, nz2, nz3, nz4, nz5, nz6, nz8, nz10, nz31, nz32, nz50, nz400, nz800, nz3200, nz20000, nlt_f, nlt_t, nle_f, nle_t, neq_f, neq_t, gi_si_e, gi_si_n, gp_sp_e, gp_sp_n, gr_sr_e, gr_sr_n, gi_sp, gi_sr, gp_si, gp_sr, gr_si, gr_sp, upd_e, upd_n, un_e, un_n, an_sn_e, an_sn_n, an_sm, an_sv, am_sn, am_sm_e, am_sm_n, am_sv, ai_sn, ai_sm, ai_sv_e, ai_sv_n, reduceIte, or_false, false_or, or_true, true_or, or_self, and_true, true_and, and_false, false_and, not_true_eq_false, not_false_eq_true, hμ]
  | succ d ih =>
    intro fu i hd hf hi
    obtain ⟨fu, rfl⟩ : ∃ f, fu = f + 1 := ⟨fu - 1, by omega⟩
    have hx := gL_at (L := S) (k := s + i) (by omega)
    have hx2 : ((S.drop s).take n)[i]? = some (gL S (s + i)) := by rw [List.getElem?_take_of_lt (by omega), List.getElem?_drop]; exact hx
    have e1 : gr ρ (4 + 3 * g' + 2) (s + i) = gL S (s + i) := h1 _ _ 2 (by omega) (by decide) hx
    have e2 : gr ρ (4 + 3 * g2 + 2) i = gL S (s + i) := h2 _ _ 2 (by omega) (by decide) hx2
    have := ih (fu := fu) (i := i + 1) (by omega) (by omega) (by omega)
    unfold f_L_sortsAll_L147; simp (disch := omega) only [↓bnd_s, ↓bnd2_s, ↓bnd3_s, ↓bnd4_s, ↓bnd5_s, ↓bndR_l, ↓bndR_r, ↓bndX_l, ↓bndX_r, ↓bndQ_s, ↓bndQ2_s, bndQ_s, bndQ2_s, bnd_s, bnd2_s, bnd3_s, bnd4_s, bnd5_s, bndR_l, bndR_r, bndX_l, bndX_r, nq_lt, nq_le, nq_inj, nq_add, nq_mul, nq_sub, nq_div, nq_neg1, nq_clamp, nq_ne1, nq_le1, ne1_lt, n1_lt0, n1_lt, n1_ne, nz0, nz1, nz2, nz3, nz4, nz5, nz6, nz8, nz10, nz31, nz32, nz50, nz400, nz800, nz3200, nz20000, nlt_f, nlt_t, nle_f, nle_t, neq_f, neq_t, gi_si_e, gi_si_n, gp_sp_e, gp_sp_n, gr_sr_e, gr_sr_n, gi_sp, gi_sr, gp_si, gp_sr, gr_si, gr_sp, upd_e, upd_n, un_e, un_n, an_sn_e, an_sn_n, an_sm, an_sv, am_sn, am_sm_e, am_sm_n, am_sv, ai_sn, ai_sm, ai_sv_e, ai_sv_n, reduceIte, or_false, false_or, or_true, true_or, or_self, and_true, true_and, and_false, false_and, not_true_eq_false, not_false_eq_true, hμ, e1, e2]; exact this
theorem rowsA_L {S : List Int32} {g' g2 : Nat} {μ : Nat → Int32} (hne : g' ≠ g2) (hSl : S.length = oF R 4) (hR : ∀ r, r < 4 → (R r).length ≤ 800) (h : qIN a (lR S R 4) σ) (hμ : ∀ i, i < 4 → μ i = nI (R i).length) (ho : oF R 4 ≤ 3200) : ∀ (d : Nat) {fu r : Nat} {ρ : St}, 4 - r = d → d < fu → r ≤ 4 → GD a g' S ρ → ∃ ρ', f_L_sortsAll_L111 g' g2 σ μ fu (nI (oF R r)) (nI 1) (nI r) ρ = some (nI 1, ρ') := by
  intro d
  induction d with
  | zero =>
    intro fu r ρ hd hf hr hG
    obtain ⟨fu, rfl⟩ : ∃ f, fu = f + 1 := ⟨fu - 1, by omega⟩
    exact ⟨ρ, by unfold f_L_sortsAll_L111; simp (disch := omega) only [↓bnd_s, ↓bnd2_s, ↓bnd3_s, ↓bnd4_s, ↓bnd5_s, ↓bndR_l, ↓bndR_r, ↓bndX_l, ↓bndX_r, ↓bndQ_s, ↓bndQ2_s, bndQ_s, bndQ2_s, bnd_s, bnd2_s, bnd3_s, bnd4_s, bnd5_s, bndR_l, bndR_r, bndX_l, bndX_r, nq_lt, nq_le, nq_inj, nq_add, nq_mul, nq_sub, nq_div, nq_neg1, nq_clamp, nq_ne1, nq_le1, ne1_lt, n1_lt0, n1_lt, n1_ne, nz0, nz1, nz2, nz3, nz4, nz5, nz6, nz8, nz10, nz31, nz32, nz50, nz400, nz800, nz3200, nz20000, nlt_f, nlt_t, nle_f, nle_t, neq_f, neq_t, gi_si_e, gi_si_n, gp_sp_e, gp_sp_n, gr_sr_e, gr_sr_n, gi_sp, gi_sr, gp_si, gp_sr, gr_si, gr_sp, upd_e, upd_n, un_e, un_n, an_sn_e, an_sn_n, an_sm, an_sv, am_sn, am_sm_e, am_sm_n, am_sv, ai_sn, ai_sm, ai_sv_e, ai_sv_n, reduceIte, or_false, false_or, or_true, true_or, or_self, and_true, true_and, and_false, false_and, not_true_eq_false, not_false_eq_true]⟩
  | succ d ih =>
    intro fu r ρ hd hf hr hG
    obtain ⟨fu, rfl⟩ : ∃ f, fu = f + 1 := ⟨fu - 1, by omega⟩
    have hr4 : r < 4 := by omega
    have hn := hR r hr4
    have hin := oF_in R hr4
    have hl : ((S.drop (oF R r)).take (R r).length).length = (R r).length := by rw [List.length_take, List.length_drop]; omega
    obtain ⟨ρ1, s1, s2, s3, s4⟩ := L_sees h hr4 g2 ρ
    rw [lR_p S R hr4] at s1 s2
    rw [hl] at s1
    have hG1 := hG.gf s3 hne
    have c := chkA_L (a := a) (ρ := ρ1) (g' := g') (g2 := g2) (r := r) (n := (R r).length) (s := oF R r) (μ := μ) (S := S) hr4 hn (by omega) (by omega) (hμ r hr4) hG1 s2 _ (fu := FU) (i := 0) rfl (by unfold FU; omega) (Nat.zero_le _)
    obtain ⟨ρ', k1⟩ := ih (fu := fu) (r := r + 1) (ρ := ρ1) (by omega) (by omega) (by omega) hG1
    rw [oF_s] at k1
    refine ⟨ρ', ?_⟩
    unfold f_L_sortsAll_L111
    simp (disch := omega) only [↓bnd_s, ↓bnd2_s, ↓bnd3_s, ↓bnd4_s, ↓bnd5_s, ↓bndR_l, ↓bndR_r, ↓bndX_l, ↓bndX_r, ↓bndQ_s, ↓bndQ2_s, bndQ_s, bndQ2_s, bnd_s, bnd2_s, bnd3_s, bnd4_s, bnd5_s, bndR_l, bndR_r, bndX_l, bndX_r, nq_lt, nq_le, nq_inj, nq_add, nq_mul, nq_sub, nq_div, nq_neg1, nq_clamp, nq_ne1, nq_le1, ne1_lt, n1_lt0, n1_lt, n1_ne, nz0, nz1, nz2, nz3, nz4, nz5, nz6, nz8, nz10, nz31, nz32, nz50, nz400, nz800, nz3200, nz20000, nlt_f, nlt_t, nle_f, nle_t, neq_f, neq_t, gi_si_e, gi_si_n, gp_sp_e, gp_sp_n, gr_sr_e, gr_sr_n, gi_sp, gi_sr, gp_si, gp_sr, gr_si, gr_sp, upd_e, upd_n, un_e, un_n, an_sn_e, an_sn_n, an_sm, an_sv, am_sn, am_sm_e, am_sm_n, am_sv, ai_sn, ai_sm, ai_sv_e, ai_sv_n, reduceIte, or_false, false_or, or_true, true_or, or_self, and_true, true_and, and_false, false_and, not_true_eq_false, not_false_eq_true, s1, hμ r hr4, c]
    exact k1
theorem aL_lR {S : List Int32} (hSl : S.length = oF R 4) : ∀ r, r ≤ 4 → aL (lR S R 4) r = S.take (oF R r)
  | 0, _ => by rw [show oF R 0 = 0 from rfl, List.take_zero]; rfl
  | r + 1, h => by rw [aL_s, aL_lR hSl r (by omega), lR_p S R (show r < 4 by omega), oF_s, List.take_add]
theorem L_sortsAll (h : qIN a R σ) {g g' g2 : Nat} (hg : g < 3) (hg' : g' < 3) (hn1 : g ≠ g') (hn2 : g ≠ g2) (hn3 : g' ≠ g2) (ρ : St) :
    ∃ (σ' ρ' : St) (R' : QR), f_L_sortsAll g g' g2 σ ρ = some (nI 1, σ', ρ') ∧ qIN a R' σ' := by
  have hN := oF_le h (r := 4) (by omega)
  have hl := aL_len R 4
  obtain ⟨ρ1, μ, a1, a2, a3⟩ := seeA_L h (Ne.symm hn2) 4 (fu := FU) (r := 0) (ρ := ρ) (μ := fun _ => nI 0) (by omega) (by unfold FU; omega) (by omega) (fun k x w hk => absurd hk (Nat.not_lt_zero _)) (fun i hi => absurd hi (Nat.not_lt_zero _))
  rw [show oF R 0 = 0 from rfl] at a1
  obtain ⟨ρ2, b1, b2, b3, b4⟩ := L_due (a := a) (ρ := ρ1) (g := g) (g' := g') (lo := 0) (hi := oF R 4) (L := aL R 4) (t := 0) hg hg' hn1 (by omega) (by omega) (Nat.zero_le _) (by omega) (by unfold GD; rw [hl]; exact a2)
  obtain ⟨S, hS⟩ : ∃ z, z = isrt (ky a 0) (aL R 4) := ⟨_, rfl⟩
  have hSl : S.length = oF R 4 := by rw [hS, isrt_len, hl]
  rw [Nat.sub_zero, List.drop_zero, List.take_of_length_le (show (aL R 4).length ≤ oF R 4 by omega), ← hS] at b1 b4
  have eD : dif (fun j => gL (aL R 4) (0 + j)) (gL S) (oF R 4) = dif (gL (aL R 4)) (gL S) (oF R 4) := dif_congr (fun k _ => by show gL (aL R 4) (0 + k) = _; rw [Nat.zero_add]) (fun _ _ => rfl)
  rw [eD] at b1
  have hG : GD a g' S ρ2 := fun k x w hk hw hx => by
    have := b4 k x w hw hx
    rw [Nat.zero_add] at this
    exact this
  obtain ⟨σ1, c1, c2⟩ := E_sortAll h
  rw [← hS] at c1 c2
  obtain ⟨ρ3, d1⟩ := rowsA_L (a := a) (R := R) (σ := σ1) (g' := g') (g2 := g2) (μ := μ) hn3 hSl (fun r hr => h.len hr) c2 a3 (by omega) 4 (fu := FU) (r := 0) (ρ := ρ2) (by omega) (by unfold FU; omega) (by omega) hG
  rw [show oF R 0 = 0 from rfl] at d1
  obtain ⟨σ2, e1, e2⟩ := E_sortAll c2
  have eA : aL (lR S R 4) 4 = S := by rw [aL_lR hSl 4 (by omega), List.take_of_length_le (by omega)]
  have hso : sortedK (ky a 0) S := by rw [hS]; exact (isrt_srt _ _ _ rfl).1
  have eD2 : dif (gL (aL (lR S R 4) 4)) (gL (isrt (ky a 0) (aL (lR S R 4) 4))) (oF (lR S R 4) 4) = 0 := by
    rw [eA, isrt_id hso]
    exact dif_0 fun _ _ => rfl
  rw [eD2] at e1
  refine ⟨σ2, ρ3, _, ?_, e2⟩
  unfold f_L_sortsAll
  rw [show (fun _ : Nat => (0 : Int32)) = fun _ => nI 0 from rfl, nz0, a1, bnd3_s, b1, bnd2_s, c1, bnd2_s, if_pos rfl, bnd_s, nz1, d1, bnd2_s, if_neg (show ¬ nI 1 = nI 0 by decide), e1, bnd2_s, if_pos rfl, bnd2_s, if_neg (show ¬ ¬ (nI 1 = nI 0 ∨ nI 1 = nI 1) from fun z => z (Or.inr rfl))]
/-- cards behind those of another row -/
theorem cpB_L {g g' m : Nat} {L M : List Int32} (hne : g ≠ g') (hL : L.length ≤ 800) (hm : m = M.length) (hM : M.length ≤ 800) : ∀ (d : Nat) {fu i : Nat} {ρ : St}, GD a g L ρ → L.length - i = d → d < fu → i ≤ L.length → GDn a g' (M ++ L) (m + i) ρ → ∃ ρ', f_L_moves_L74 g g' (nI L.length) (nI m) fu (nI i) ρ = some ρ' ∧ GD a g' (M ++ L) ρ' ∧ gF g' ρ ρ' := by
  intro d
  induction d with
  | zero =>
    intro fu i ρ h hd hf hi hG
    obtain ⟨fu, rfl⟩ : ∃ f, fu = f + 1 := ⟨fu - 1, by omega⟩
    have e : i = L.length := by omega
    subst e
    refine ⟨ρ, ?_, by unfold GD; rw [List.length_append, ← hm]; exact hG, gF.refl _ _⟩
    unfold f_L_moves_L74; simp (disch := omega) only [↓bnd_s, ↓bnd2_s, ↓bnd3_s, ↓bnd4_s, ↓bnd5_s, ↓bndR_l, ↓bndR_r, ↓bndX_l, ↓bndX_r, ↓bndQ_s, ↓bndQ2_s, bndQ_s, bndQ2_s, bnd_s, bnd2_s, bnd3_s, bnd4_s, bnd5_s, bndR_l, bndR_r, bndX_l, bndX_r, nq_lt, nq_le, nq_inj, nq_add, nq_mul, nq_sub, nq_div, nq_neg1, nq_clamp, nq_ne1, nq_le1, ne1_lt, n1_lt0, n1_lt, n1_ne, nz0, nz1, nz2, nz3, nz4, nz5, nz6, nz8, nz10, nz31, nz32, nz50, nz400, nz800, nz3200, nz20000, nlt_f, nlt_t, nle_f, nle_t, neq_f, neq_t, gi_si_e, gi_si_n, gp_sp_e, gp_sp_n, gr_sr_e, gr_sr_n, gi_sp, gi_sr, gp_si, gp_sr, gr_si, gr_sp, upd_e, upd_n, un_e, un_n, an_sn_e, an_sn_n, an_sm, an_sv, am_sn, am_sm_e, am_sm_n, am_sv, ai_sn, ai_sm, ai_sv_e, ai_sv_n, reduceIte, or_false, false_or, or_true, true_or, or_self, and_true, true_and, and_false, false_and, not_true_eq_false, not_false_eq_true]
  | succ d ih =>
    intro fu i ρ h hd hf hi hG
    obtain ⟨fu, rfl⟩ : ∃ f, fu = f + 1 := ⟨fu - 1, by omega⟩
    have hx := gL_at (L := L) (k := i) (by omega)
    have hx2 : (M ++ L)[m + i]? = some (gL L i) := by rw [List.getElem?_append_right (by omega), hm, Nat.add_sub_cancel_left]; exact hx
    have cp := L_copies' (a := a) (g := g) (g' := g') (i := i) (k := m + i) hne (by omega) (by omega) (fun w hw => h i _ w (by omega) hw hx)
    obtain ⟨ρ', k1, k2, k3⟩ := ih (fu := fu) (i := i + 1) (h.gf set3_F hne) (by omega) (by omega) (by omega) (hG.put hx2)
    refine ⟨ρ', ?_, k2, set3_F.trans k3⟩
    unfold f_L_moves_L74; simp (disch := omega) only [↓bnd_s, ↓bnd2_s, ↓bnd3_s, ↓bnd4_s, ↓bnd5_s, ↓bndR_l, ↓bndR_r, ↓bndX_l, ↓bndX_r, ↓bndQ_s, ↓bndQ2_s, bndQ_s, bndQ2_s, bnd_s, bnd2_s, bnd3_s, bnd4_s, bnd5_s, bndR_l, bndR_r, bndX_l, bndX_r, nq_lt, nq_le, nq_inj, nq_add, nq_mul, nq_sub, nq_div, nq_neg1, nq_clamp, nq_ne1, nq_le1, ne1_lt, n1_lt0, n1_lt, n1_ne, nz0, nz1, nz2, nz3, nz4, nz5, nz6, nz8, nz10, nz31, nz32, nz50, nz400, nz800, nz3200, nz20000, nlt_f, nlt_t, nle_f, nle_t, neq_f, neq_t, gi_si_e, gi_si_n, gp_sp_e, gp_sp_n, gr_sr_e, gr_sr_n, gi_sp, gi_sr, gp_si, gp_sr, gr_si, gr_sp, upd_e, upd_n, un_e, un_n, an_sn_e, an_sn_n, an_sm, an_sv, am_sn, am_sm_e, am_sm_n, am_sv, ai_sn, ai_sm, ai_sv_e, ai_sv_n, reduceIte, or_false, false_or, or_true, true_or, or_self, and_true, true_and, and_false, false_and, not_true_eq_false, not_false_eq_true, cp]; exact k1
/-- every other card, those at odd places and those at even ones -/
def odL (L : List Int32) : List Int32 := seg (fun k => gL L (2 * k + 1)) 0 (L.length / 2)
def evL (L : List Int32) : List Int32 := seg (fun k => gL L (2 * k)) 0 ((L.length + 1) / 2)
theorem cpC_L {g g' m : Nat} {L M : List Int32} (hne : g ≠ g') (hL : L.length ≤ 800) (hm : m = M.length) (hM : M.length ≤ 800) : ∀ (d : Nat) {fu i : Nat} {ρ : St}, GD a g L ρ → L.length / 2 - i = d → d < fu → i ≤ L.length / 2 → GDn a g' (M ++ odL L) (m + i) ρ → ∃ ρ', f_L_moves_L207 g g' (nI L.length) (nI m) fu (nI (2 * i + 1)) ρ = some ρ' ∧ GD a g' (M ++ odL L) ρ' ∧ gF g' ρ ρ' := by
  have hO : (odL L).length = L.length / 2 := seg_len _ _ _
  intro d
  induction d with
  | zero =>
    intro fu i ρ h hd hf hi hG
    obtain ⟨fu, rfl⟩ : ∃ f, fu = f + 1 := ⟨fu - 1, by omega⟩
    have e : i = L.length / 2 := by omega
    refine ⟨ρ, ?_, by unfold GD; rw [List.length_append, ← hm, hO, ← e]; exact hG, gF.refl _ _⟩
    unfold f_L_moves_L207; simp (disch := omega) only [↓bnd_s, ↓bnd2_s, ↓bnd3_s, ↓bnd4_s, ↓bnd5_s, ↓bndR_l, ↓bndR_r, ↓bndX_l, ↓bndX_r, ↓bndQ_s, ↓bndQ2_s, bndQ_s, bndQ2_s, bnd_s, bnd2_s, bnd3_s, bnd4_s, bnd5_s, bndR_l, bndR_r, bndX_l, bndX_r, nq_lt, nq_le, nq_inj, nq_add, nq_mul, nq_sub, nq_div, nq_neg1, nq_clamp, nq_ne1, nq_le1, ne1_lt, n1_lt0, n1_lt, n1_ne, nz0, nz1, nz2, nz3, nz4, nz5, nz6, nz8, nz10, nz31, nz32, nz50, nz400, nz800, nz3200, nz20000, nlt_f, nlt_t, nle_f, nle_t, neq_f, neq_t, gi_si_e, gi_si_n, gp_sp_e, gp_sp_n, gr_sr_e, gr_sr_n, gi_sp, gi_sr, gp_si, gp_sr, gr_si, gr_sp, upd_e, upd_n, un_e, un_n, an_sn_e, an_sn_n, an_sm, an_sv, am_sn, am_sm_e, am_sm_n, am_sv, ai_sn, ai_sm, ai_sv_e, ai_sv_n, reduceIte, or_false, false_or, or_true, true_or, or_self, and_true, true_and, and_false, false_and, not_true_eq_false, not_false_eq_true]
  | succ d ih =>
    intro fu i ρ h hd hf hi hG
    obtain ⟨fu, rfl⟩ : ∃ f, fu = f + 1 := ⟨fu - 1, by omega⟩
    have hx := gL_at (L := L) (k := 2 * i + 1) (by omega)
    have hx2 : (M ++ odL L)[m + i]? = some (gL L (2 * i + 1)) := by
      rw [List.getElem?_append_right (by omega), hm, Nat.add_sub_cancel_left]
      have := seg_get (fun k => gL L (2 * k + 1)) (L.length / 2) 0 i (by omega)
      rw [Nat.zero_add] at this
      exact this
    have cp := L_copies' (a := a) (g := g) (g' := g') (i := 2 * i + 1) (k := m + i) hne (by omega) (by omega) (fun w hw => h _ _ w (by omega) hw hx)
    obtain ⟨ρ', k1, k2, k3⟩ := ih (fu := fu) (i := i + 1) (h.gf set3_F hne) (by omega) (by omega) (by omega) (hG.put hx2)
    rw [show 2 * (i + 1) + 1 = 2 * i + 1 + 2 by omega] at k1
    have e2 : nI (2 * i + 1) / nI 2 = nI i := by rw [nq_div (by omega) (by omega), show (2 * i + 1) / 2 = i by omega]
    refine ⟨ρ', ?_, k2, set3_F.trans k3⟩
    unfold f_L_moves_L207
    rw [nz2, e2]
    simp (disch := omega) only [↓bnd_s, ↓bnd2_s, ↓bnd3_s, ↓bnd4_s, ↓bnd5_s, ↓bndR_l, ↓bndR_r, ↓bndX_l, ↓bndX_r, ↓bndQ_s, ↓bndQ2_s, bndQ_s, bndQ2_s, bnd_s, bnd2_s, bnd3_s, bnd4_s, bnd5_s, bndR_l, bndR_r, bndX_l, bndX_r, nq_lt, nq_le, nq_inj, nq_add, nq_mul, nq_sub, nq_div, nq_neg1, nq_clamp, nq_ne1, nq_le1, ne1_lt, n1_lt0, n1_lt, n1_ne, nz0, nz1, nz2, nz3, nz4, nz5, nz6, nz8, nz10, nz31, nz32, nz50, nz400, nz800, nz3200, nz20000, nlt_f, nlt_t, nle_f, nle_t, neq_f, neq_t, gi_si_e, gi_si_n, gp_sp_e, gp_sp_n, gr_sr_e, gr_sr_n, gi_sp, gi_sr, gp_si, gp_sr, gr_si, gr_sp, upd_e, upd_n, un_e, un_n, an_sn_e, an_sn_n, an_sm, an_sv, am_sn, am_sm_e, am_sm_n, am_sv, ai_sn, ai_sm, ai_sv_e, ai_sv_n, reduceIte, or_false, false_or, or_true, true_or, or_self, and_true, true_and, and_false, false_and, not_true_eq_false, not_false_eq_true, cp]; exact k1
theorem oth_nI {r k : Nat} (hr : r < 4) (hk : k < 8388608) : nI r + nI 1 + (nI k - nI k / nI 3 * nI 3) - (nI r + nI 1 + (nI k - nI k / nI 3 * nI 3)) / nI 4 * nI 4 = nI ((r + 1 + k % 3) % 4) := by
  rw [rem_nI (by omega) (by omega) (by omega), nq_add, nq_add, rem_nI (by omega) (by omega) (by omega)]
/-- the last one's first number -/
def lfq (a : AS) : Int32 → List Int32 → Int32
  | g, [] => g
  | _, x :: l => lfq a (qFs a x) l
theorem lfq_last (z : Int32) : ∀ (P : List Int32) (g : Int32), lfq a g (P ++ [z]) = qFs a z
  | [], _ => rfl
  | x :: l, g => lfq_last z l (qFs a x)
theorem sgl_snoc (y : Int32) : ∀ (P : List Int32) (g : Int32), sgl a g (P ++ [y]) = sgl a g P ++ if qFs a y = lfq a g P then [] else [y]
  | [], g => by
    show (if qFs a y = g then sgl a g [] else y :: sgl a (qFs a y) []) = [] ++ if qFs a y = g then [] else [y]
    by_cases e : qFs a y = g
    · rw [if_pos e, if_pos e]; rfl
    · rw [if_neg e, if_neg e]; rfl
  | x :: l, g => by
    show (if qFs a x = g then sgl a g (l ++ [y]) else x :: sgl a (qFs a x) (l ++ [y])) = (if qFs a x = g then sgl a g l else x :: sgl a (qFs a x) l) ++ if qFs a y = lfq a (qFs a x) l then [] else [y]
    by_cases e : qFs a x = g
    · rw [if_pos e, if_pos e, sgl_snoc y l g, e]
    · rw [if_neg e, if_neg e, sgl_snoc y l (qFs a x)]; rfl
theorem sng_snoc {L : List Int32} {k : Nat} (hk : k + 1 < L.length) : sng a (L.take (k + 2)) = sng a (L.take (k + 1)) ++ if qFs a (gL L (k + 1)) = qFs a (gL L k) then [] else [gL L (k + 1)] := by
  have e1 : L.take (k + 2) = L.take (k + 1) ++ [gL L (k + 1)] := by
    rw [List.take_add_one, gL_at hk]; rfl
  have e2 : L.take (k + 1) = L.take k ++ [gL L k] := by
    rw [List.take_add_one, gL_at (show k < L.length by omega)]; rfl
  rw [e1]
  match hP : L.take (k + 1) with
  | [] =>
    have := congrArg List.length hP
    rw [List.length_take, List.length_nil] at this
    omega
  | x :: P =>
    show x :: sgl a (qFs a x) (P ++ [gL L (k + 1)]) = x :: sgl a (qFs a x) P ++ _
    have e3 : lfq a (qFs a x) P = qFs a (gL L k) := by
      have h1 : lfq a 0 (L.take (k + 1)) = qFs a (gL L k) := by rw [e2]; exact lfq_last _ _ _
      rw [hP] at h1
      exact h1
    rw [sgl_snoc, e3, List.cons_append]
theorem thn_snoc (s : Int32) {L : List Int32} {k : Nat} (hk : k < L.length) : thn a s (L.take (k + 1)) = thn a s (L.take k) ++ if qSc a (gL L k) = s then [] else [gL L k] := by
  rw [List.take_add_one, gL_at hk]
  show thn a s (L.take k ++ [gL L k]) = _
  unfold thn
  rw [List.filter_append]
  congr 1
  by_cases e : qSc a (gL L k) = s
  · rw [if_pos e, List.filter_cons, if_neg (by simp [e])]; rfl
  · rw [if_neg e, List.filter_cons, if_pos (by simp [e])]; rfl
/-- which cards stay -/
def stL (a : AS) (what : Nat) (s : Int32) (L : List Int32) : List Int32 := if what = 10 then thn a s L else sng a L
theorem stL_len (what : Nat) (s : Int32) (L : List Int32) : (stL a what s L).length ≤ L.length := by
  unfold stL
  split
  · exact thn_len _ _ _
  · exact sng_len _ _
theorem GDn.app1 {g k : Nat} {P : List Int32} (hP : P.length = k) (h : GD a g P ρ) (x : Int32) : GD a g (P ++ [x]) (set3 ρ g k (qWf a 0 x) (qWf a 1 x) (qWf a 2 x)) := by
  unfold GD
  rw [List.length_append, List.length_singleton, hP]
  refine GDn.put (GDn.ext (L := P) (n := P.length) h (by omega) fun j hj => List.getElem?_append_left (by omega)) ?_
  rw [List.getElem?_append_right (by omega), hP, Nat.sub_self]; rfl
theorem thinL {g g' what : Nat} {s : Int32} {L : List Int32} (hne : g ≠ g') (hw : what = 10 ∨ what = 11) (hL : L.length ≤ 800) : ∀ (d : Nat) {fu i : Nat} {ρ : St}, GD a g L ρ → L.length - i = d → d < fu → i ≤ L.length → GD a g' (stL a what s (L.take i)) ρ → ∃ ρ', f_L_moves_L671 (nI what) g g' (nI L.length) s fu (nI (stL a what s (L.take i)).length) (nI i) ρ = some (nI (stL a what s L).length, ρ') ∧ GD a g' (stL a what s L) ρ' ∧ gF g' ρ ρ' := by
  intro d
  induction d with
  | zero =>
    intro fu i ρ h hd hf hi hG
    obtain ⟨fu, rfl⟩ : ∃ f, fu = f + 1 := ⟨fu - 1, by omega⟩
    have e : i = L.length := by omega
    subst e
    rw [List.take_of_length_le (Nat.le_refl _)] at hG ⊢
    exact ⟨ρ, by unfold f_L_moves_L671; simp (disch := omega) only [↓bnd_s, ↓bnd2_s, ↓bnd3_s, ↓bnd4_s, ↓bnd5_s, ↓bndR_l, ↓bndR_r, ↓bndX_l, ↓bndX_r, ↓bndQ_s, ↓bndQ2_s, bndQ_s, bndQ2_s, bnd_s, bnd2_s, bnd3_s, bnd4_s, bnd5_s, bndR_l, bndR_r, bndX_l, bndX_r, nq_lt, nq_le, nq_inj, nq_add, nq_mul, nq_sub, nq_div, nq_neg1, nq_clamp, nq_ne1, nq_le1, ne1_lt, n1_lt0, n1_lt, n1_ne, nz0, nz1, nz2, nz3, nz4, nz5, nz6, nz8, nz10, nz31, nz32, nz50, nz400, nz800, nz3200, nz20000, nlt_f, nlt_t, nle_f, nle_t, neq_f, neq_t, gi_si_e, gi_si_n, gp_sp_e, gp_sp_n, gr_sr_e, gr_sr_n, gi_sp, gi_sr, gp_si, gp_sr, gr_si, gr_sp, upd_e, upd_n, un_e, un_n, an_sn_e, an_sn_n, an_sm, an_sv, am_sn, am_sm_e, am_sm_n, am_sv, ai_sn, ai_sm, ai_sv_e, ai_sv_n, reduceIte, or_false, false_or, or_true, true_or, or_self, and_true, true_and, and_false, false_and, not_true_eq_false, not_false_eq_true], hG, gF.refl _ _⟩
  | succ d ih =>
    intro fu i ρ h hd hf hi hG
    obtain ⟨fu, rfl⟩ : ∃ f, fu = f + 1 := ⟨fu - 1, by omega⟩
    have hx := gL_at (L := L) (k := i) (by omega)
    have hl := stL_len (a := a) what s (L.take i)
    rw [List.length_take] at hl
    obtain ⟨P, hP⟩ : ∃ z, z = stL a what s (L.take i) := ⟨_, rfl⟩
    rw [← hP] at hG hl ⊢
    have cp := L_copies' (a := a) (g := g) (g' := g') (i := i) (k := P.length) hne (by omega) (by omega) (fun w hw => h i _ w (by omega) hw hx)
    have f0 : gr ρ (4 + 3 * g + 0) i = qFs a (gL L i) := h i _ 0 (by omega) (by decide) hx
    have f1 : gr ρ (4 + 3 * g + 1) i = qSc a (gL L i) := h i _ 1 (by omega) (by decide) hx
    have stay : stL a what s (L.take (i + 1)) = P ++ [gL L i] → ∃ ρ', f_L_moves_L671 (nI what) g g' (nI L.length) s fu (nI (P.length + 1)) (nI (i + 1)) (set3 ρ g' P.length (qWf a 0 (gL L i)) (qWf a 1 (gL L i)) (qWf a 2 (gL L i))) = some (nI (stL a what s L).length, ρ') ∧ GD a g' (stL a what s L) ρ' ∧ gF g' ρ ρ' := fun e => by
      have h2 : GD a g' (stL a what s (L.take (i + 1))) (set3 ρ g' P.length (qWf a 0 (gL L i)) (qWf a 1 (gL L i)) (qWf a 2 (gL L i))) := by rw [e]; exact GDn.app1 rfl hG _
      obtain ⟨ρ', k1, k2, k3⟩ := ih (fu := fu) (i := i + 1) (h.gf set3_F hne) (by omega) (by omega) (by omega) h2
      rw [e, List.length_append, List.length_singleton] at k1
      exact ⟨ρ', k1, k2, set3_F.trans k3⟩
    have goes : stL a what s (L.take (i + 1)) = P → ∃ ρ', f_L_moves_L671 (nI what) g g' (nI L.length) s fu (nI P.length) (nI (i + 1)) ρ = some (nI (stL a what s L).length, ρ') ∧ GD a g' (stL a what s L) ρ' ∧ gF g' ρ ρ' := fun e => by
      have h2 : GD a g' (stL a what s (L.take (i + 1))) ρ := by rw [e]; exact hG
      obtain ⟨ρ', k1, k2, k3⟩ := ih (fu := fu) (i := i + 1) h (by omega) (by omega) (by omega) h2
      rw [e] at k1
      exact ⟨ρ', k1, k2, k3⟩
    rcases hw with rfl | rfl
    · have hs := thn_snoc (a := a) s (L := L) (k := i) (by omega)
      have hs' : stL a 10 s (L.take (i + 1)) = P ++ if qSc a (gL L i) = s then [] else [gL L i] := by rw [hP]; exact hs
      by_cases e : qSc a (gL L i) = s
      · rw [if_pos e, List.append_nil] at hs'
        obtain ⟨ρ', k1, k2, k3⟩ := goes hs'
        refine ⟨ρ', ?_, k2, k3⟩
        unfold f_L_moves_L671
        rw [if_pos (show nI 10 = (10 : Int32) from rfl)]
        simp (disch := omega) only [↓bnd_s, ↓bnd2_s, ↓bnd3_s, ↓bnd4_s, ↓bnd5_s, ↓bndR_l, ↓bndR_r, ↓bndX_l, ↓bndX_r, ↓bndQ_s, ↓bndQ2_s, bndQ_s, bndQ2_s, bnd_s, bnd2_s, bnd3_s, bnd4_s, bnd5_s, bndR_l, bndR_r, bndX_l, bndX_r, nq_lt, nq_le, nq_inj, nq_add, nq_mul, nq_sub, nq_div, nq_neg1, nq_clamp, nq_ne1, nq_le1, ne1_lt, n1_lt0, n1_lt, n1_ne, nz0, nz1, nz2, nz3, nz4, nz5, nz6, nz8, nz10, nz31, nz32, nz50, nz400, nz800, nz3200, nz20000, nlt_f, nlt_t, nle_f, nle_t, neq_f, neq_t, gi_si_e, gi_si_n, gp_sp_e, gp_sp_n, gr_sr_e, gr_sr_n, gi_sp, gi_sr, gp_si, gp_sr, gr_si, gr_sp, upd_e, upd_n, un_e, un_n, an_sn_e, an_sn_n, an_sm, an_sv, am_sn, am_sm_e, am_sm_n, am_sv, ai_sn, ai_sm, ai_sv_e, ai_sv_n, reduceIte, or_false, false_or, or_true, true_or, or_self, and_true, true_and, and_false, false_and, not_true_eq_false, not_false_eq_true, f1, e]; exact k1
      · rw [if_neg e] at hs'
        obtain ⟨ρ', k1, k2, k3⟩ := stay hs'
        refine ⟨ρ', ?_, k2, k3⟩
        unfold f_L_moves_L671
        rw [if_pos (show nI 10 = (10 : Int32) from rfl)]
        simp (disch := omega) only [↓bnd_s, ↓bnd2_s, ↓bnd3_s, ↓bnd4_s, ↓bnd5_s, ↓bndR_l, ↓bndR_r, ↓bndX_l, ↓bndX_r, ↓bndQ_s, ↓bndQ2_s, bndQ_s, bndQ2_s, bnd_s, bnd2_s, bnd3_s, bnd4_s, bnd5_s, bndR_l, bndR_r, bndX_l, bndX_r, nq_lt, nq_le, nq_inj, nq_add, nq_mul, nq_sub, nq_div, nq_neg1, nq_clamp, nq_ne1, nq_le1, ne1_lt, n1_lt0, n1_lt, n1_ne, nz0, nz1, nz2, nz3, nz4, nz5, nz6, nz8, nz10, nz31, nz32, nz50, nz400, nz800, nz3200, nz20000, nlt_f, nlt_t, nle_f, nle_t, neq_f, neq_t, gi_si_e, gi_si_n, gp_sp_e, gp_sp_n, gr_sr_e, gr_sr_n, gi_sp, gi_sr, gp_si, gp_sr, gr_si, gr_sp, upd_e, upd_n, un_e, un_n, an_sn_e, an_sn_n, an_sm, an_sv, am_sn, am_sm_e, am_sm_n, am_sv, ai_sn, ai_sm, ai_sv_e, ai_sv_n, reduceIte, or_false, false_or, or_true, true_or, or_self, and_true, true_and, and_false, false_and, not_true_eq_false, not_false_eq_true, f1, e, cp]; exact k1
    · cases i with
      | zero =>
        have hs' : stL a 11 s (L.take (0 + 1)) = P ++ [gL L 0] := by
          rw [hP, List.take_add_one, gL_at (show 0 < L.length by omega), List.take_zero]; rfl
        obtain ⟨ρ', k1, k2, k3⟩ := stay hs'
        refine ⟨ρ', ?_, k2, k3⟩
        unfold f_L_moves_L671
        rw [if_neg (show ¬ nI 11 = (10 : Int32) by decide)]
        simp (disch := omega) only [↓bnd_s, ↓bnd2_s, ↓bnd3_s, ↓bnd4_s, ↓bnd5_s, ↓bndR_l, ↓bndR_r, ↓bndX_l, ↓bndX_r, ↓bndQ_s, ↓bndQ2_s, bndQ_s, bndQ2_s, bnd_s, bnd2_s, bnd3_s, bnd4_s, bnd5_s, bndR_l, bndR_r, bndX_l, bndX_r, nq_lt, nq_le, nq_inj, nq_add, nq_mul, nq_sub, nq_div, nq_neg1, nq_clamp, nq_ne1, nq_le1, ne1_lt, n1_lt0, n1_lt, n1_ne, nz0, nz1, nz2, nz3, nz4, nz5, nz6, nz8, nz10, nz31, nz32, nz50, nz400, nz800, nz3200, nz20000, nlt_f, nlt_t, nle_f, nle_t, neq_f, neq_t, gi_si_e, gi_si_n, gp_sp_e, gp_sp_n, gr_sr_e, gr_sr_n, gi_sp, gi_sr, gp_si, gp_sr, gr_si, gr_sp, upd_e, upd_n, un_e, un_n, an_sn_e, an_sn_n, an_sm, an_sv, am_sn, am_sm_e, am_sm_n, am_sv, ai_sn, ai_sm, ai_sv_e, ai_sv_n, reduceIte, or_false, false_or, or_true, true_or, or_self, and_true, true_and, and_false, false_and, not_true_eq_false, not_false_eq_true, cp]; exact k1
      | succ j =>
        have hs := sng_snoc (a := a) (L := L) (k := j) (by omega)
        have hs' : stL a 11 s (L.take (j + 1 + 1)) = P ++ if qFs a (gL L (j + 1)) = qFs a (gL L j) then [] else [gL L (j + 1)] := by rw [hP]; exact hs
        have f2 : gr ρ (4 + 3 * g + 0) j = qFs a (gL L j) := h j _ 0 (by omega) (by decide) (gL_at (by omega))
        by_cases e : qFs a (gL L (j + 1)) = qFs a (gL L j)
        · rw [if_pos e, List.append_nil] at hs'
          obtain ⟨ρ', k1, k2, k3⟩ := goes hs'
          refine ⟨ρ', ?_, k2, k3⟩
          unfold f_L_moves_L671
          rw [if_neg (show ¬ nI 11 = (10 : Int32) by decide)]
          simp (disch := omega) only [↓bnd_s, ↓bnd2_s, ↓bnd3_s, ↓bnd4_s, ↓bnd5_s, ↓bndR_l, ↓bndR_r, ↓bndX_l, ↓bndX_r, ↓bndQ_s, ↓bndQ2_s, bndQ_s, bndQ2_s, bnd_s, bnd2_s, bnd3_s, bnd4_s, bnd5_s, bndR_l, bndR_r, bndX_l, bndX_r, nq_lt, nq_le, nq_inj, nq_add, nq_mul, nq_sub, nq_div, nq_neg1, nq_clamp, nq_ne1, nq_le1, ne1_lt, n1_lt0, n1_lt, n1_ne, nz0, nz1, nz2, nz3, nz4, nz5, nz6, nz8, nz10, nz31, nz32, nz50, nz400, nz800, nz3200, nz20000, nlt_f, nlt_t, nle_f, nle_t, neq_f, neq_t, gi_si_e, gi_si_n, gp_sp_e, gp_sp_n, gr_sr_e, gr_sr_n, gi_sp, gi_sr, gp_si, gp_sr, gr_si, gr_sp, upd_e, upd_n, un_e, un_n, an_sn_e, an_sn_n, an_sm, an_sv, am_sn, am_sm_e, am_sm_n, am_sv, ai_sn, ai_sm, ai_sv_e, ai_sv_n, reduceIte, or_false, false_or, or_true, true_or, or_self, and_true, true_and, and_false, false_and, not_true_eq_false, not_false_eq_true, Nat.add_sub_cancel, f0, f2, e]; exact k1
        · rw [if_neg e] at hs'
          obtain ⟨ρ', k1, k2, k3⟩ := stay hs'
          refine ⟨ρ', ?_, k2, k3⟩
          unfold f_L_moves_L671
          rw [if_neg (show ¬ nI 11 = (10 : Int32) by decide)]
          simp (disch := omega) only [↓bnd_s, ↓bnd2_s, ↓bnd3_s, ↓bnd4_s, ↓bnd5_s, ↓bndR_l, ↓bndR_r, ↓bndX_l, ↓bndX_r, ↓bndQ_s, ↓bndQ2_s, bndQ_s, bndQ2_s, bnd_s, bnd2_s, bnd3_s, bnd4_s, bnd5_s, bndR_l, bndR_r, bndX_l, bndX_r, nq_lt, nq_le, nq_inj, nq_add, nq_mul, nq_sub, nq_div, nq_neg1, nq_clamp, nq_ne1, nq_le1, ne1_lt, n1_lt0, n1_lt, n1_ne, nz0, nz1, nz2, nz3, nz4, nz5, nz6, nz8, nz10, nz31, nz32, nz50, nz400, nz800, nz3200, nz20000, nlt_f, nlt_t, nle_f, nle_t, neq_f, neq_t, gi_si_e, gi_si_n, gp_sp_e, gp_sp_n, gr_sr_e, gr_sr_n, gi_sp, gi_sr, gp_si, gp_sr, gr_si, gr_sp, upd_e, upd_n, un_e, un_n, an_sn_e, an_sn_n, an_sm, an_sv, am_sn, am_sm_e, am_sm_n, am_sv, ai_sn, ai_sm, ai_sv_e, ai_sv_n, reduceIte, or_false, false_or, or_true, true_or, or_self, and_true, true_and, and_false, false_and, not_true_eq_false, not_false_eq_true, Nat.add_sub_cancel, f0, f2, e, cp]; exact k1
end LY
