/-! the law's looks at rows: seen, copied, alike, what is due -/
theorem ky1q (a : AS) (x : Int32) : ky a 1 x = -(qFs a x).toInt := rfl
theorem ky2q (a : AS) (x : Int32) : ky a 2 x = (qSc a x).toInt := rfl
theorem ky3q (a : AS) (x : Int32) : ky a 3 x = (qFs a x).toInt * 4294967296 + (qSc a x).toInt := rfl
/-- what stands at a place of a grid -/
def set3 (ρ : St) (g k : Nat) (x0 x1 x2 : Int32) : St := sr (sr (sr ρ (4 + 3 * g + 0) (upd (gr ρ (4 + 3 * g + 0)) k x0)) (4 + 3 * g + 1) (upd (gr ρ (4 + 3 * g + 1)) k x1)) (4 + 3 * g + 2) (upd (gr ρ (4 + 3 * g + 2)) k x2)
def GDn (a : AS) (g : Nat) (L : List Int32) (n : Nat) (ρ : St) : Prop := ∀ (k : Nat) (x : Int32) (w : Nat), k < n → w < 3 → L[k]? = some x → gr ρ (4 + 3 * g + w) k = qWf a w x
abbrev GD (a : AS) (g : Nat) (L : List Int32) (ρ : St) : Prop := GDn a g L L.length ρ
/-- the rows of other grids, the flags and the draws are as they were -/
def gF (g : Nat) (ρ ρ' : St) : Prop := ∀ i, (i < 4 + 3 * g ∨ 7 + 3 * g ≤ i) → gr ρ' i = gr ρ i
theorem gF.refl (g : Nat) (ρ : St) : gF g ρ ρ := fun _ _ => rfl
theorem gF.trans {g : Nat} {ρ ρ' ρ2 : St} (h : gF g ρ ρ') (h2 : gF g ρ' ρ2) : gF g ρ ρ2 := fun i hi => (h2 i hi).trans (h i hi)
theorem GDn.fr {a : AS} {g : Nat} {L : List Int32} {n : Nat} {ρ ρ' : St} (h : GDn a g L n ρ) (e : ∀ w, w < 3 → gr ρ' (4 + 3 * g + w) = gr ρ (4 + 3 * g + w)) : GDn a g L n ρ' := fun k x w hk hw hx => by rw [e w hw]; exact h k x w hk hw hx
theorem GDn.gf {a : AS} {g g' : Nat} {L : List Int32} {n : Nat} {ρ ρ' : St} (h : GDn a g L n ρ) (e : gF g' ρ ρ') (hne : g ≠ g') : GDn a g L n ρ' := h.fr fun w hw => e _ (by omega)
section S3
variable {ρ : St} {g k : Nat} {x0 x1 x2 : Int32}
theorem set3_0 : gr (set3 ρ g k x0 x1 x2) (4 + 3 * g + 0) = upd (gr ρ (4 + 3 * g + 0)) k x0 := by unfold set3; simp (disch := omega) only [gi_si_e, gi_si_n, gp_sp_e, gp_sp_n, gr_sr_e, gr_sr_n, gi_sp, gi_sr, gp_si, gp_sr, gr_si, gr_sp, upd_e, upd_n, un_e, un_n, an_sn_e, an_sn_n, an_sm, an_sv, am_sn, am_sm_e, am_sm_n, am_sv, ai_sn, ai_sm, ai_sv_e, ai_sv_n, reduceIte, or_false, false_or, or_true, true_or, or_self, and_true, true_and, and_false, false_and, not_true_eq_false, not_false_eq_true]
theorem set3_1 : gr (set3 ρ g k x0 x1 x2) (4 + 3 * g + 1) = upd (gr ρ (4 + 3 * g + 1)) k x1 := by unfold set3; simp (disch := omega) only [gi_si_e, gi_si_n, gp_sp_e, gp_sp_n, gr_sr_e, gr_sr_n, gi_sp, gi_sr, gp_si, gp_sr, gr_si, gr_sp, upd_e, upd_n, un_e, un_n, an_sn_e, an_sn_n, an_sm, an_sv, am_sn, am_sm_e, am_sm_n, am_sv, ai_sn, ai_sm, ai_sv_e, ai_sv_n, reduceIte, or_false, false_or, or_true, true_or, or_self, and_true, true_and, and_false, false_and, not_true_eq_false, not_false_eq_true]
theorem set3_2 : gr (set3 ρ g k x0 x1 x2) (4 + 3 * g + 2) = upd (gr ρ (4 + 3 * g + 2)) k x2 := by unfold set3; simp (disch := omega) only [gi_si_e, gi_si_n, gp_sp_e, gp_sp_n, gr_sr_e, gr_sr_n, gi_sp, gi_sr, gp_si, gp_sr, gr_si, gr_sp, upd_e, upd_n, un_e, un_n, an_sn_e, an_sn_n, an_sm, an_sv, am_sn, am_sm_e, am_sm_n, am_sv, ai_sn, ai_sm, ai_sv_e, ai_sv_n, reduceIte, or_false, false_or, or_true, true_or, or_self, and_true, true_and, and_false, false_and, not_true_eq_false, not_false_eq_true]
theorem set3_F : gF g ρ (set3 ρ g k x0 x1 x2) := fun i hi => by
  unfold set3
  rw [gr_sr_n _ _ (by omega), gr_sr_n _ _ (by omega), gr_sr_n _ _ (by omega)]
theorem set3_n {w q : Nat} (hw : w < 3) (hq : q ≠ k) : gr (set3 ρ g k x0 x1 x2) (4 + 3 * g + w) q = gr ρ (4 + 3 * g + w) q := by
  rcases (show w = 0 ∨ w = 1 ∨ w = 2 by omega) with rfl | rfl | rfl
  · rw [set3_0, upd_n _ _ hq]
  · rw [set3_1, upd_n _ _ hq]
  · rw [set3_2, upd_n _ _ hq]
theorem set3_e {a : AS} {x : Int32} {w : Nat} (hw : w < 3) : gr (set3 ρ g k (qWf a 0 x) (qWf a 1 x) (qWf a 2 x)) (4 + 3 * g + w) k = qWf a w x := by
  rcases (show w = 0 ∨ w = 1 ∨ w = 2 by omega) with rfl | rfl | rfl
  · rw [set3_0, upd_e _ _ rfl]
  · rw [set3_1, upd_e _ _ rfl]
  · rw [set3_2, upd_e _ _ rfl]
/-- one place more -/
theorem GDn.put {a : AS} {L : List Int32} (h : GDn a g L k ρ) {x : Int32} (hx : L[k]? = some x) : GDn a g L (k + 1) (set3 ρ g k (qWf a 0 x) (qWf a 1 x) (qWf a 2 x)) := fun q y w hq hw hy => by
  by_cases e : q = k
  · subst e
    rw [hx] at hy
    rw [set3_e hw, Option.some.inj hy]
  · rw [set3_n hw e]; exact h q y w (by omega) hw hy
end S3
section LS
variable {a : AS} {R : QR} {σ ρ : St}
theorem see1 (h : qIN a R σ) {r : Nat} (hr : r < 4) {g k : Nat} {x : Int32} (hx : (R r)[k]? = some x) : f_L_sees_L18 (nI r) g (nI k) σ FU (nI 0) ρ = some (set3 ρ g k (qWf a 0 x) (qWf a 1 x) (qWf a 2 x)) := by
  have hn := h.len hr
  have hk := (List.getElem?_eq_some_iff.mp hx).1
  have c0 := E_cardAt h hr hx (show 0 < 3 by decide)
  have c1 := E_cardAt h hr hx (show 1 < 3 by decide)
  have c2 := E_cardAt h hr hx (show 2 < 3 by decide)
  obtain ⟨f, hf⟩ : ∃ f, FU = f + 4 := ⟨3996, rfl⟩
  rw [hf]
  unfold set3 f_L_sees_L18
  simp (disch := omega) only [↓bnd_s, ↓bnd2_s, ↓bnd3_s, ↓bnd4_s, ↓bnd5_s, ↓bndR_l, ↓bndR_r, ↓bndX_l, ↓bndX_r, ↓bndQ_s, ↓bndQ2_s, bndQ_s, bndQ2_s, bnd_s, bnd2_s, bnd3_s, bnd4_s, bnd5_s, bndR_l, bndR_r, bndX_l, bndX_r, nq_lt, nq_le, nq_inj, nq_add, nq_mul, nq_sub, nq_div, nq_neg1, nq_clamp, nq_ne1, nq_le1, ne1_lt, n1_lt0, n1_lt, n1_ne, nz0, nz1, nz2, nz3, nz4, nz5, nz6, nz8, nz10, nz31, nz32, nz50, nz400, nz800, nz3200, nz20000, nlt_f, nlt_t, nle_f, nle_t, neq_f, neq_t, gi_si_e, gi_si_n, gp_sp_e, gp_sp_n, gr_sr_e, gr_sr_n, gi_sp, gi_sr, gp_si, gp_sr, gr_si, gr_sp, upd_e, upd_n, un_e, un_n, an_sn_e, an_sn_n, an_sm, an_sv, am_sn, am_sm_e, am_sm_n, am_sv, ai_sn, ai_sm, ai_sv_e, ai_sv_n, reduceIte, or_false, false_or, or_true, true_or, or_self, and_true, true_and, and_false, false_and, not_true_eq_false, not_false_eq_true, c0]
  unfold f_L_sees_L18
  simp (disch := omega) only [↓bnd_s, ↓bnd2_s, ↓bnd3_s, ↓bnd4_s, ↓bnd5_s, ↓bndR_l, ↓bndR_r, ↓bndX_l, ↓bndX_r, ↓bndQ_s, ↓bndQ2_s, bndQ_s, bndQ2_s, bnd_s, bnd2_s, bnd3_s, bnd4_s, bnd5_s, bndR_l, bndR_r, bndX_l, bndX_r, nq_lt, nq_le, nq_inj, nq_add, nq_mul, nq_sub, nq_div, nq_neg1, nq_clamp, nq_ne1, nq_le1, ne1_lt, n1_lt0, n1_lt, n1_ne, nz0, nz1, nz2, nz3, nz4, nz5, nz6, nz8, nz10, nz31, nz32, nz50, nz400, nz800, nz3200, nz20000, nlt_f, nlt_t, nle_f, nle_t, neq_f, neq_t, gi_si_e, gi_si_n, gp_sp_e, gp_sp_n, gr_sr_e, gr_sr_n, gi_sp, gi_sr, gp_si, gp_sr, gr_si, gr_sp, upd_e, upd_n, un_e, un_n, an_sn_e, an_sn_n, an_sm, an_sv, am_sn, am_sm_e, am_sm_n, am_sv, ai_sn, ai_sm, ai_sv_e, ai_sv_n, reduceIte, or_false, false_or, or_true, true_or, or_self, and_true, true_and, and_false, false_and, not_true_eq_false, not_false_eq_true, c1]
  unfold f_L_sees_L18
  simp (disch := omega) only [↓bnd_s, ↓bnd2_s, ↓bnd3_s, ↓bnd4_s, ↓bnd5_s, ↓bndR_l, ↓bndR_r, ↓bndX_l, ↓bndX_r, ↓bndQ_s, ↓bndQ2_s, bndQ_s, bndQ2_s, bnd_s, bnd2_s, bnd3_s, bnd4_s, bnd5_s, bndR_l, bndR_r, bndX_l, bndX_r, nq_lt, nq_le, nq_inj, nq_add, nq_mul, nq_sub, nq_div, nq_neg1, nq_clamp, nq_ne1, nq_le1, ne1_lt, n1_lt0, n1_lt, n1_ne, nz0, nz1, nz2, nz3, nz4, nz5, nz6, nz8, nz10, nz31, nz32, nz50, nz400, nz800, nz3200, nz20000, nlt_f, nlt_t, nle_f, nle_t, neq_f, neq_t, gi_si_e, gi_si_n, gp_sp_e, gp_sp_n, gr_sr_e, gr_sr_n, gi_sp, gi_sr, gp_si, gp_sr, gr_si, gr_sp, upd_e, upd_n, un_e, un_n, an_sn_e, an_sn_n, an_sm, an_sv, am_sn, am_sm_e, am_sm_n, am_sv, ai_sn, ai_sm, ai_sv_e, ai_sv_n, reduceIte, or_false, false_or, or_true, true_or, or_self, and_true, true_and, and_false, false_and, not_true_eq_false, not_false_eq_true, c2]
  unfold f_L_sees_L18
  simp (disch := omega) only [↓bnd_s, ↓bnd2_s, ↓bnd3_s, ↓bnd4_s, ↓bnd5_s, ↓bndR_l, ↓bndR_r, ↓bndX_l, ↓bndX_r, ↓bndQ_s, ↓bndQ2_s, bndQ_s, bndQ2_s, bnd_s, bnd2_s, bnd3_s, bnd4_s, bnd5_s, bndR_l, bndR_r, bndX_l, bndX_r, nq_lt, nq_le, nq_inj, nq_add, nq_mul, nq_sub, nq_div, nq_neg1, nq_clamp, nq_ne1, nq_le1, ne1_lt, n1_lt0, n1_lt, n1_ne, nz0, nz1, nz2, nz3, nz4, nz5, nz6, nz8, nz10, nz31, nz32, nz50, nz400, nz800, nz3200, nz20000, nlt_f, nlt_t, nle_f, nle_t, neq_f, neq_t, gi_si_e, gi_si_n, gp_sp_e, gp_sp_n, gr_sr_e, gr_sr_n, gi_sp, gi_sr, gp_si, gp_sr, gr_si, gr_sp, upd_e, upd_n, un_e, un_n, an_sn_e, an_sn_n, an_sm, an_sv, am_sn, am_sm_e, am_sm_n, am_sv, ai_sn, ai_sm, ai_sv_e, ai_sv_n, reduceIte, or_false, false_or, or_true, true_or, or_self, and_true, true_and, and_false, false_and, not_true_eq_false, not_false_eq_true]
theorem see_L (h : qIN a R σ) {r : Nat} (hr : r < 4) {g : Nat} : ∀ (d : Nat) {fu i : Nat} {ρ : St}, (R r).length - i = d → d < fu → i ≤ (R r).length → GDn a g (R r) i ρ → ∃ ρ', f_L_sees_L9 (nI r) g (nI (R r).length) σ fu (nI i) ρ = some ρ' ∧ GD a g (R r) ρ' ∧ gF g ρ ρ' ∧ ∀ w q, w < 3 → (R r).length ≤ q → gr ρ' (4 + 3 * g + w) q = gr ρ (4 + 3 * g + w) q := by
  have hn := h.len hr
  intro d
  induction d with
  | zero =>
    intro fu i ρ hd hf hi hG
    obtain ⟨fu, rfl⟩ : ∃ f, fu = f + 1 := ⟨fu - 1, by omega⟩
    have e : i = (R r).length := by omega
    subst e
    refine ⟨ρ, ?_, hG, gF.refl g ρ, fun _ _ _ _ => rfl⟩
    unfold f_L_sees_L9; simp (disch := omega) only [↓bnd_s, ↓bnd2_s, ↓bnd3_s, ↓bnd4_s, ↓bnd5_s, ↓bndR_l, ↓bndR_r, ↓bndX_l, ↓bndX_r, ↓bndQ_s, ↓bndQ2_s, bndQ_s, bndQ2_s, bnd_s, bnd2_s, bnd3_s, bnd4_s, bnd5_s, bndR_l, bndR_r, bndX_l, bndX_r, nq_lt, nq_le, nq_inj, nq_add, nq_mul, nq_sub, nq_div, nq_neg1, nq_clamp, nq_ne1, nq_le1, ne1_lt, n1_lt0, n1_lt, n1_ne, nz0, nz1, nz2, nz3, nz4, nz5, nz6, nz8, nz10, nz31, nz32, nz50, nz400, nz800, nz3200, nz20000, nlt_f, nlt_t, nle_f, nle_t, neq_f, neq_t, gi_si_e, gi_si_n, gp_sp_e, gp_sp_n, gr_sr_e, gr_sr_n, gi_sp, gi_sr, gp_si, gp_sr, gr_si, gr_sp, upd_e, upd_n, un_e, un_n, an_sn_e, an_sn_n, an_sm, an_sv, am_sn, am_sm_e, am_sm_n, am_sv, ai_sn, ai_sm, ai_sv_e, ai_sv_n, reduceIte, or_false, false_or, or_true, true_or, or_self, and_true, true_and, and_false, false_and, not_true_eq_false, not_false_eq_true]
  | succ d ih =>
    intro fu i ρ hd hf hi hG
    obtain ⟨fu, rfl⟩ : ∃ f, fu = f + 1 := ⟨fu - 1, by omega⟩
    obtain ⟨x, hx⟩ : ∃ x, (R r)[i]? = some x := ⟨_, List.getElem?_eq_getElem (by omega)⟩
    have s1 := see1 (ρ := ρ) (g := g) h hr hx
    obtain ⟨ρ', g1, g2, g3, g4⟩ := ih (fu := fu) (i := i + 1) (by omega) (by omega) (by omega) (hG.put hx)
    refine ⟨ρ', ?_, g2, set3_F.trans g3, fun w q hw hq => by rw [g4 w q hw hq, set3_n hw (by omega)]⟩
    unfold f_L_sees_L9; simp (disch := omega) only [↓bnd_s, ↓bnd2_s, ↓bnd3_s, ↓bnd4_s, ↓bnd5_s, ↓bndR_l, ↓bndR_r, ↓bndX_l, ↓bndX_r, ↓bndQ_s, ↓bndQ2_s, bndQ_s, bndQ2_s, bnd_s, bnd2_s, bnd3_s, bnd4_s, bnd5_s, bndR_l, bndR_r, bndX_l, bndX_r, nq_lt, nq_le, nq_inj, nq_add, nq_mul, nq_sub, nq_div, nq_neg1, nq_clamp, nq_ne1, nq_le1, ne1_lt, n1_lt0, n1_lt, n1_ne, nz0, nz1, nz2, nz3, nz4, nz5, nz6, nz8, nz10, nz31, nz32, nz50, nz400, nz800, nz3200, nz20000, nlt_f, nlt_t, nle_f, nle_t, neq_f, neq_t, gi_si_e, gi_si_n, gp_sp_e, gp_sp_n, gr_sr_e, gr_sr_n, gi_sp, gi_sr, gp_si, gp_sr, gr_si, gr_sp, upd_e, upd_n, un_e, un_n, an_sn_e, an_sn_n, an_sm, an_sv, am_sn, am_sm_e, am_sm_n, am_sv, ai_sn, ai_sm, ai_sv_e, ai_sv_n, reduceIte, or_false, false_or, or_true, true_or, or_self, and_true, true_and, and_false, false_and, not_true_eq_false, not_false_eq_true, s1]; exact g1
theorem L_sees (h : qIN a R σ) {r : Nat} (hr : r < 4) (g : Nat) (ρ : St) : ∃ ρ', f_L_sees (nI r) g σ ρ = some (nI (R r).length, ρ') ∧ GD a g (R r) ρ' ∧ gF g ρ ρ' ∧ ∀ w q, w < 3 → (R r).length ≤ q → gr ρ' (4 + 3 * g + w) q = gr ρ (4 + 3 * g + w) q := by
  have hn := h.len hr
  obtain ⟨ρ', g1, g2, g3, g4⟩ := see_L h hr (g := g) _ (fu := FU) (i := 0) (ρ := ρ) rfl (by unfold FU; omega) (Nat.zero_le _) (fun k x w hk => absurd hk (Nat.not_lt_zero _))
  refine ⟨ρ', ?_, g2, g3, g4⟩
  unfold f_L_sees
  rw [E_count h hr, bndQ_s, nz0, g1]; rfl
theorem L_copies {g g' i k : Nat} (hne : g ≠ g') (hi : i < 3200) (hk : k < 3200) (ρ : St) : f_L_copies g (nI i) g' (nI k) ρ = some (set3 ρ g' k (gr ρ (4 + 3 * g + 0) i) (gr ρ (4 + 3 * g + 1) i) (gr ρ (4 + 3 * g + 2) i)) := by
  unfold set3 f_L_copies FU f_L_copies_L3
  simp (disch := omega) only [↓bnd_s, ↓bnd2_s, ↓bnd3_s, ↓bnd4_s, ↓bnd5_s, ↓bndR_l, ↓bndR_r, ↓bndX_l, ↓bndX_r, ↓bndQ_s, ↓bndQ2_s, bndQ_s, bndQ2_s, bnd_s, bnd2_s, bnd3_s, bnd4_s, bnd5_s, bndR_l, bndR_r, bndX_l, bndX_r, nq_lt, nq_le, nq_inj, nq_add, nq_mul, nq_sub, nq_div, nq_neg1, nq_clamp, nq_ne1, nq_le1, ne1_lt, n1_lt0, n1_lt, n1_ne, nz0, nz1, nz2, nz3, nz4, nz5, nz6, nz8, nz10, nz31, nz32, nz50, nz400, nz800, nz3200, nz20000, nlt_f, nlt_t, nle_f, nle_t, neq_f, neq_t, gi_si_e, gi_si_n, gp_sp_e, gp_sp_n, gr_sr_e, gr_sr_n, gi_sp, gi_sr, gp_si, gp_sr, gr_si, gr_sp, upd_e, upd_n, un_e, un_n, an_sn_e, an_sn_n, an_sm, an_sv, am_sn, am_sm_e, am_sm_n, am_sv, ai_sn, ai_sm, ai_sv_e, ai_sv_n, reduceIte, or_false, false_or, or_true, true_or, or_self, and_true, true_and, and_false, false_and, not_true_eq_false, not_false_eq_true]
  unfold f_L_copies_L3
  simp (disch := omega) only [↓bnd_s, ↓bnd2_s, ↓bnd3_s, ↓bnd4_s, ↓bnd5_s, ↓bndR_l, ↓bndR_r, ↓bndX_l, ↓bndX_r, ↓bndQ_s, ↓bndQ2_s, bndQ_s, bndQ2_s, bnd_s, bnd2_s, bnd3_s, bnd4_s, bnd5_s, bndR_l, bndR_r, bndX_l, bndX_r, nq_lt, nq_le, nq_inj, nq_add, nq_mul, nq_sub, nq_div, nq_neg1, nq_clamp, nq_ne1, nq_le1, ne1_lt, n1_lt0, n1_lt, n1_ne, nz0, nz1, nz2, nz3, nz4, nz5, nz6, nz8, nz10, nz31, nz32, nz50, nz400, nz800, nz3200, nz20000, nlt_f, nlt_t, nle_f, nle_t, neq_f, neq_t, gi_si_e, gi_si_n, gp_sp_e, gp_sp_n, gr_sr_e, gr_sr_n, gi_sp, gi_sr, gp_si, gp_sr, gr_si, gr_sp, upd_e, upd_n, un_e, un_n, an_sn_e, an_sn_n, an_sm, an_sv, am_sn, am_sm_e, am_sm_n, am_sv, ai_sn, ai_sm, ai_sv_e, ai_sv_n, reduceIte, or_false, false_or, or_true, true_or, or_self, and_true, true_and, and_false, false_and, not_true_eq_false, not_false_eq_true]
  unfold f_L_copies_L3
  simp (disch := omega) only [↓bnd_s, ↓bnd2_s, ↓bnd3_s, ↓bnd4_s, ↓bnd5_s, ↓bndR_l, ↓bndR_r, ↓bndX_l, ↓bndX_r, ↓bndQ_s, ↓bndQ2_s, bndQ_s, bndQ2_s, bnd_s, bnd2_s, bnd3_s, bnd4_s, bnd5_s, bndR_l, bndR_r, bndX_l, bndX_r, nq_lt, nq_le, nq_inj, nq_add, nq_mul, nq_sub, nq_div, nq_neg1, nq_clamp, nq_ne1, nq_le1, ne1_lt, n1_lt0, n1_lt, n1_ne, nz0, nz1, nz2, nz3, nz4, nz5, nz6, nz8, nz10, nz31, nz32, nz50, nz400, nz800, nz3200, nz20000, nlt_f, nlt_t, nle_f, nle_t, neq_f, neq_t, gi_si_e, gi_si_n, gp_sp_e, gp_sp_n, gr_sr_e, gr_sr_n, gi_sp, gi_sr, gp_si, gp_sr, gr_si, gr_sp, upd_e, upd_n, un_e, un_n, an_sn_e, an_sn_n, an_sm, an_sv, am_sn, am_sm_e, am_sm_n, am_sv, ai_sn, ai_sm, ai_sv_e, ai_sv_n, reduceIte, or_false, false_or, or_true, true_or, or_self, and_true, true_and, and_false, false_and, not_true_eq_false, not_false_eq_true]
  unfold f_L_copies_L3
  simp (disch := omega) only [↓bnd_s, ↓bnd2_s, ↓bnd3_s, ↓bnd4_s, ↓bnd5_s, ↓bndR_l, ↓bndR_r, ↓bndX_l, ↓bndX_r, ↓bndQ_s, ↓bndQ2_s, bndQ_s, bndQ2_s, bnd_s, bnd2_s, bnd3_s, bnd4_s, bnd5_s, bndR_l, bndR_r, bndX_l, bndX_r, nq_lt, nq_le, nq_inj, nq_add, nq_mul, nq_sub, nq_div, nq_neg1, nq_clamp, nq_ne1, nq_le1, ne1_lt, n1_lt0, n1_lt, n1_ne, nz0, nz1, nz2, nz3, nz4, nz5, nz6, nz8, nz10, nz31, nz32, nz50, nz400, nz800, nz3200, nz20000, nlt_f, nlt_t, nle_f, nle_t, neq_f, neq_t, gi_si_e, gi_si_n, gp_sp_e, gp_sp_n, gr_sr_e, gr_sr_n, gi_sp, gi_sr, gp_si, gp_sr, gr_si, gr_sp, upd_e, upd_n, un_e, un_n, an_sn_e, an_sn_n, an_sm, an_sv, am_sn, am_sm_e, am_sm_n, am_sv, ai_sn, ai_sm, ai_sv_e, ai_sv_n, reduceIte, or_false, false_or, or_true, true_or, or_self, and_true, true_and, and_false, false_and, not_true_eq_false, not_false_eq_true]
theorem L_copies' {a : AS} {g g' i k : Nat} {x : Int32} (hne : g ≠ g') (hi : i < 3200) (hk : k < 3200) {ρ : St} (hx : ∀ w, w < 3 → gr ρ (4 + 3 * g + w) i = qWf a w x) : f_L_copies g (nI i) g' (nI k) ρ = some (set3 ρ g' k (qWf a 0 x) (qWf a 1 x) (qWf a 2 x)) := by
  rw [L_copies hne hi hk, hx 0 (by decide), hx 1 (by decide), hx 2 (by decide)]
theorem like_L {g g' n : Nat} (hn : n ≤ 3200) (h : ∀ k w, k < n → w < 3 → gr ρ (4 + 3 * g + w) k = gr ρ (4 + 3 * g' + w) k) : ∀ (d : Nat) {fu i : Nat}, n - i = d → d < fu → i ≤ n → f_L_isLike_L2 g g' (nI n) ρ fu (nI i) = some (.inr ()) := by
  intro d
  induction d with
  | zero =>
    intro fu i hd hf hi
    obtain ⟨fu, rfl⟩ : ∃ f, fu = f + 1 := ⟨fu - 1, by omega⟩
    unfold f_L_isLike_L2; simp (disch := omega) only [↓bnd_s, ↓bnd2_s, ↓bnd3_s, ↓bnd4_s, ↓bnd5_s, ↓bndR_l, ↓bndR_r, ↓bndX_l, ↓bndX_r, ↓bndQ_s, ↓bndQ2_s, bndQ_s, bndQ2_s, bnd_s, bnd2_s, bnd3_s, bnd4_s, bnd5_s, bndR_l, bndR_r, bndX_l, bndX_r, nq_lt, nq_le, nq_inj, nq_add, nq_mul, nq_sub, nq_div, nq_neg1, nq_clamp, nq_ne1, nq_le1, ne1_lt, n1_lt0, n1_lt, n1_ne, nz0, nz1, nz2, nz3, nz4, nz5, nz6, nz8, nz10, nz31, nz32, nz50, nz400, nz800, nz3200, nz20000, nlt_f, nlt_t, nle_f, nle_t, neq_f, neq_t, gi_si_e, gi_si_n, gp_sp_e, gp_sp_n, gr_sr_e, gr_sr_n, gi_sp, gi_sr, gp_si, gp_sr, gr_si, gr_sp, upd_e, upd_n, un_e, un_n, an_sn_e, an_sn_n, an_sm, an_sv, am_sn, am_sm_e, am_sm_n, am_sv, ai_sn, ai_sm, ai_sv_e, ai_sv_n, reduceIte, or_false, false_or, or_true, true_or, or_self, and_true, true_and, and_false, false_and, not_true_eq_false, not_false_eq_true]
  | succ d ih =>
    intro fu i hd hf hi
    obtain ⟨fu, rfl⟩ : ∃ f, fu = f + 1 := ⟨fu - 1, by omega⟩
    have g1 := ih (fu := fu) (i := i + 1) (by omega) (by omega) (by omega)
    have h0 := h i 0 (by omega) (by decide)
    have h1 := h i 1 (by omega) (by decide)
    have h2 := h i 2 (by omega) (by decide)
    have e : f_L_isLike_L10 g g' (nI i) ρ FU (nI 0) = some (.inr ()) := by
      unfold FU f_L_isLike_L10
      simp (disch := omega) only [↓bnd_s, ↓bnd2_s, ↓bnd3_s, ↓bnd4_s, ↓bnd5_s, ↓bndR_l, ↓bndR_r, ↓bndX_l, ↓bndX_r, ↓bndQ_s, ↓bndQ2_s, bndQ_s, bndQ2_s, bnd_s, bnd2_s, bnd3_s, bnd4_s, bnd5_s, bndR_l, bndR_r, bndX_l, bndX_r, nq_lt, nq_le, nq_inj, nq_add, nq_mul, nq_sub, nq_div, nq_neg1, nq_clamp, nq_ne1, nq_le1, ne1_lt, n1_lt0, n1_lt, n1_ne, nz0, nz1, nz2, nz3, nz4, nz5, nz6, nz8, nz10, nz31, nz32, nz50, nz400, nz800, nz3200, nz20000, nlt_f, nlt_t, nle_f, nle_t, neq_f, neq_t, gi_si_e, gi_si_n, gp_sp_e, gp_sp_n, gr_sr_e, gr_sr_n, gi_sp, gi_sr, gp_si, gp_sr, gr_si, gr_sp, upd_e, upd_n, un_e, un_n, an_sn_e, an_sn_n, an_sm, an_sv, am_sn, am_sm_e, am_sm_n, am_sv, ai_sn, ai_sm, ai_sv_e, ai_sv_n, reduceIte, or_false, false_or, or_true, true_or, or_self, and_true, true_and, and_false, false_and, not_true_eq_false, not_false_eq_true, h0]
      unfold f_L_isLike_L10
      simp (disch := omega) only [↓bnd_s, ↓bnd2_s, ↓bnd3_s, ↓bnd4_s, ↓bnd5_s, ↓bndR_l, ↓bndR_r, ↓bndX_l, ↓bndX_r, ↓bndQ_s, ↓bndQ2_s, bndQ_s, bndQ2_s, bnd_s, bnd2_s, bnd3_s, bnd4_s, bnd5_s, bndR_l, bndR_r, bndX_l, bndX_r, nq_lt, nq_le, nq_inj, nq_add, nq_mul, nq_sub, nq_div, nq_neg1, nq_clamp, nq_ne1, nq_le1, ne1_lt, n1_lt0, n1_lt, n1_ne, nz0, nz1, nz2, nz3, nz4, nz5, nz6, nz8, nz10, nz31, nz32, nz50, nz400, nz800, nz3200, nz20000, nlt_f, nlt_t, nle_f, nle_t, neq_f, neq_t, gi_si_e, gi_si_n, gp_sp_e, gp_sp_n, gr_sr_e, gr_sr_n, gi_sp, gi_sr, gp_si, gp_sr, gr_si, gr_sp, upd_e, upd_n, un_e, un_n, an_sn_e, an_sn_n, an_sm, an_sv, am_sn, am_sm_e, am_sm_n, am_sv, ai_sn, ai_sm, ai_sv_e, ai_sv_n, reduceIte, or_false, false_or, or_true, true_or, or_self, and_true, true_and, and_false, false_and, not_true_eq_false, not_false_eq_true, h1]
      unfold f_L_isLike_L10
      simp (disch := omega) only [↓bnd_s, ↓bnd2_s, ↓bnd3_s, ↓bnd4_s, ↓bnd5_s, ↓bndR_l, ↓bndR_r, ↓bndX_l, ↓bndX_r, ↓bndQ_s, ↓bndQ2_s, bndQ_s, bndQ2_s, bnd_s, bnd2_s, bnd3_s, bnd4_s, bnd5_s, bndR_l, bndR_r, bndX_l, bndX_r, nq_lt, nq_le, nq_inj, nq_add, nq_mul, nq_sub, nq_div, nq_neg1, nq_clamp, nq_ne1, nq_le1, ne1_lt, n1_lt0, n1_lt, n1_ne, nz0, nz1, nz2, nz3, nz4, nz5, nz6, nz8, nz10, nz31, nz32, nz50, nz400, nz800, nz3200, nz20000, nlt_f, nlt_t, nle_f, nle_t, neq_f, neq_t, gi_si_e, gi_si_n, gp_sp_e, gp_sp_n, gr_sr_e, gr_sr_n, gi_sp, gi_sr, gp_si, gp_sr, gr_si, gr_sp, upd_e, upd_n, un_e, un_n, an_sn_e, an_sn_n, an_sm, an_sv, am_sn, am_sm_e, am_sm_n, am_sv, ai_sn, ai_sm, ai_sv_e, ai_sv_n, reduceIte, or_false, false_or, or_true, true_or, or_self, and_true, true_and, and_false, false_and, not_true_eq_false, not_false_eq_true, h2]
      unfold f_L_isLike_L10
      simp (disch := omega) only [↓bnd_s, ↓bnd2_s, ↓bnd3_s, ↓bnd4_s, ↓bnd5_s, ↓bndR_l, ↓bndR_r, ↓bndX_l, ↓bndX_r, ↓bndQ_s, ↓bndQ2_s, bndQ_s, bndQ2_s, bnd_s, bnd2_s, bnd3_s, bnd4_s, bnd5_s, bndR_l, bndR_r, bndX_l, bndX_r, nq_lt, nq_le, nq_inj, nq_add, nq_mul, nq_sub, nq_div, nq_neg1, nq_clamp, nq_ne1, nq_le1, ne1_lt, n1_lt0, n1_lt, n1_ne, nz0, nz1, nz2, nz3, nz4, nz5, nz6, nz8, nz10, nz31, nz32, nz50, nz400, nz800, nz3200, nz20000, nlt_f, nlt_t, nle_f, nle_t, neq_f, neq_t, gi_si_e, gi_si_n, gp_sp_e, gp_sp_n, gr_sr_e, gr_sr_n, gi_sp, gi_sr, gp_si, gp_sr, gr_si, gr_sp, upd_e, upd_n, un_e, un_n, an_sn_e, an_sn_n, an_sm, an_sv, am_sn, am_sm_e, am_sm_n, am_sv, ai_sn, ai_sm, ai_sv_e, ai_sv_n, reduceIte, or_false, false_or, or_true, true_or, or_self, and_true, true_and, and_false, false_and, not_true_eq_false, not_false_eq_true]
    unfold f_L_isLike_L2; simp (disch := omega) only [↓bnd_s, ↓bnd2_s, ↓bnd3_s, ↓bnd4_s, ↓bnd5_s, ↓bndR_l, ↓bndR_r, ↓bndX_l, ↓bndX_r, ↓bndQ_s, ↓bndQ2_s, bndQ_s, bndQ2_s, bnd_s, bnd2_s, bnd3_s, bnd4_s, bnd5_s, bndR_l, bndR_r, bndX_l, bndX_r, nq_lt, nq_le, nq_inj, nq_add, nq_mul, nq_sub, nq_div, nq_neg1, nq_clamp, nq_ne1, nq_le1, ne1_lt, n1_lt0, n1_lt, n1_ne, nz0, nz1, nz2, nz3, nz4, nz5, nz6, nz8, nz10, nz31, nz32, nz50, nz400, nz800, nz3200, nz20000, nlt_f, nlt_t, nle_f, nle_t, neq_f, neq_t, gi_si_e, gi_si_n, gp_sp_e, gp_sp_n, gr_sr_e, gr_sr_n, gi_sp, gi_sr, gp_si, gp_sr, gr_si, gr_sp, upd_e, upd_n, un_e, un_n, an_sn_e, an_sn_n, an_sm, an_sv, am_sn, am_sm_e, am_sm_n, am_sv, ai_sn, ai_sm, ai_sv_e, ai_sv_n, reduceIte, or_false, false_or, or_true, true_or, or_self, and_true, true_and, and_false, false_and, not_true_eq_false, not_false_eq_true, e]; exact g1
theorem L_isLike {g g' : Nat} {L : List Int32} (hL : L.length ≤ 3200) (h1 : GD a g L ρ) (h2 : GD a g' L ρ) : f_L_isLike g g' (nI L.length) ρ = some (nI 1) := by
  have e := like_L (g := g) (g' := g') hL (fun k w hk hw => by
    have ex := List.getElem?_eq_getElem (l := L) (i := k) hk
    rw [h1 k _ w hk hw ex, h2 k _ w hk hw ex]) _ (fu := FU) (i := 0) rfl (by unfold FU; omega) (Nat.zero_le _)
  unfold f_L_isLike
  rw [nz0, e, bndR_r]; rfl
theorem kyq_lt (a : AS) {t : Nat} (ht : t < 4) (x y : Int32) : ky a t x < ky a t y ↔ (if t = 0 then qFs a x < qFs a y else if t = 1 then qFs a y < qFs a x else if t = 2 then qSc a x < qSc a y else (qFs a x < qFs a y ∨ (qFs a x = qFs a y ∧ qSc a x < qSc a y))) := by
  rcases (show t = 0 ∨ t = 1 ∨ t = 2 ∨ t = 3 by omega) with rfl | rfl | rfl | rfl
  · rw [ky0q, ky0q]; exact Int32.lt_iff_toInt_lt.symm
  · rw [ky1q, ky1q]
    show _ ↔ qFs a y < qFs a x
    rw [Int32.lt_iff_toInt_lt]; omega
  · rw [ky2q, ky2q]; exact Int32.lt_iff_toInt_lt.symm
  · rw [ky3q, ky3q]; exact both_lt _ _ _ _
theorem L_isAhead {g i k t : Nat} (ht : t < 4) (hi : i < 3200) (hk : k < 3200) {x y : Int32} (hx : ∀ w, w < 3 → gr ρ (4 + 3 * g + w) i = qWf a w x) (hy : ∀ w, w < 3 → gr ρ (4 + 3 * g + w) k = qWf a w y) : f_L_isAhead g (nI i) g (nI k) (nI t) ρ = some (if ky a t x < ky a t y then nI 1 else nI 0) := by
  have q := kyq_lt a ht x y
  have x0 : gr ρ (4 + 3 * g + 0) i = qFs a x := hx 0 (by decide)
  have x1 : gr ρ (4 + 3 * g + 1) i = qSc a x := hx 1 (by decide)
  have y0 : gr ρ (4 + 3 * g + 0) k = qFs a y := hy 0 (by decide)
  have y1 : gr ρ (4 + 3 * g + 1) k = qSc a y := hy 1 (by decide)
  unfold f_L_isAhead
  rcases (show t = 0 ∨ t = 1 ∨ t = 2 ∨ t = 3 by omega) with rfl | rfl | rfl | rfl
  · simp only [if_true] at q
    by_cases e : qFs a x < qFs a y
    · rw [if_pos (q.mpr e)]; simp (disch := omega) only [↓bnd_s, ↓bnd2_s, ↓bnd3_s, ↓bnd4_s, ↓bnd5_s, ↓bndR_l, ↓bndR_r, ↓bndX_l, ↓bndX_r, ↓bndQ_s, ↓bndQ2_s, bndQ_s, bndQ2_s, bnd_s, bnd2_s, bnd3_s, bnd4_s, bnd5_s, bndR_l, bndR_r, bndX_l, bndX_r, nq_lt, nq_le, nq_inj, nq_add, nq_mul, nq_sub, nq_div, nq_neg1, nq_clamp, nq_ne1, nq_le1, ne1_lt, n1_lt0, n1_lt, n1_ne, nz0, nz1, nz2, nz3, nz4, nz5, nz6, nz8, nz10, nz31, nz32, nz50, nz400, nz800, nz3200, nz20000, nlt_f, nlt_t, nle_f, nle_t, neq_f, neq_t, gi_si_e, gi_si_n, gp_sp_e, gp_sp_n, gr_sr_e, gr_sr_n, gi_sp, gi_sr, gp_si, gp_sr, gr_si, gr_sp, upd_e, upd_n, un_e, un_n, an_sn_e, an_sn_n, an_sm, an_sv, am_sn, am_sm_e, am_sm_n, am_sv, ai_sn, ai_sm, ai_sv_e, ai_sv_n, reduceIte, or_false, false_or, or_true, true_or, or_self, and_true, true_and, and_false, false_and, not_true_eq_false, not_false_eq_true, x0, y0, e]
    · rw [if_neg (fun z => e (q.mp z))]; simp (disch := omega) only [↓bnd_s, ↓bnd2_s, ↓bnd3_s, ↓bnd4_s, ↓bnd5_s, ↓bndR_l, ↓bndR_r, ↓bndX_l, ↓bndX_r, ↓bndQ_s, ↓bndQ2_s, bndQ_s, bndQ2_s, bnd_s, bnd2_s, bnd3_s, bnd4_s, bnd5_s, bndR_l, bndR_r, bndX_l, bndX_r, nq_lt, nq_le, nq_inj, nq_add, nq_mul, nq_sub, nq_div, nq_neg1, nq_clamp, nq_ne1, nq_le1, ne1_lt, n1_lt0, n1_lt, n1_ne, nz0, nz1, nz2, nz3, nz4, nz5, nz6, nz8, nz10, nz31, nz32, nz50, nz400, nz800, nz3200, nz20000, nlt_f, nlt_t, nle_f, nle_t, neq_f, neq_t, gi_si_e, gi_si_n, gp_sp_e, gp_sp_n, gr_sr_e, gr_sr_n, gi_sp, gi_sr, gp_si, gp_sr, gr_si, gr_sp, upd_e, upd_n, un_e, un_n, an_sn_e, an_sn_n, an_sm, an_sv, am_sn, am_sm_e, am_sm_n, am_sv, ai_sn, ai_sm, ai_sv_e, ai_sv_n, reduceIte, or_false, false_or, or_true, true_or, or_self, and_true, true_and, and_false, false_and, not_true_eq_false, not_false_eq_true, x0, y0, e]
  · simp only [show ¬ (1 : Nat) = 0 by decide, if_false, if_true] at q
    by_cases e : qFs a y < qFs a x
    · rw [if_pos (q.mpr e)]; simp (disch := omega) only [↓bnd_s, ↓bnd2_s, ↓bnd3_s, ↓bnd4_s, ↓bnd5_s, ↓bndR_l, ↓bndR_r, ↓bndX_l, ↓bndX_r, ↓bndQ_s, ↓bndQ2_s, bndQ_s, bndQ2_s, bnd_s, bnd2_s, bnd3_s, bnd4_s, bnd5_s, bndR_l, bndR_r, bndX_l, bndX_r, nq_lt, nq_le, nq_inj, nq_add, nq_mul, nq_sub, nq_div, nq_neg1, nq_clamp, nq_ne1, nq_le1, ne1_lt, n1_lt0, n1_lt, n1_ne, nz0, nz1, nz2, nz3, nz4, nz5, nz6, nz8, nz10, nz31, nz32, nz50, nz400, nz800, nz3200, nz20000, nlt_f, nlt_t, nle_f, nle_t, neq_f, neq_t, gi_si_e, gi_si_n, gp_sp_e, gp_sp_n, gr_sr_e, gr_sr_n, gi_sp, gi_sr, gp_si, gp_sr, gr_si, gr_sp, upd_e, upd_n, un_e, un_n, an_sn_e, an_sn_n, an_sm, an_sv, am_sn, am_sm_e, am_sm_n, am_sv, ai_sn, ai_sm, ai_sv_e, ai_sv_n, reduceIte, or_false, false_or, or_true, true_or, or_self, and_true, true_and, and_false, false_and, not_true_eq_false, not_false_eq_true, x0, y0, Int32.not_le.mpr e]
    · rw [if_neg (fun z => e (q.mp z))]; simp (disch := omega) only [↓bnd_s, ↓bnd2_s, ↓bnd3_s, ↓bnd4_s, ↓bnd5_s, ↓bndR_l, ↓bndR_r, ↓bndX_l, ↓bndX_r, ↓bndQ_s, ↓bndQ2_s, bndQ_s, bndQ2_s, bnd_s, bnd2_s, bnd3_s, bnd4_s, bnd5_s, bndR_l, bndR_r, bndX_l, bndX_r, nq_lt, nq_le, nq_inj, nq_add, nq_mul, nq_sub, nq_div, nq_neg1, nq_clamp, nq_ne1, nq_le1, ne1_lt, n1_lt0, n1_lt, n1_ne, nz0, nz1, nz2, nz3, nz4, nz5, nz6, nz8, nz10, nz31, nz32, nz50, nz400, nz800, nz3200, nz20000, nlt_f, nlt_t, nle_f, nle_t, neq_f, neq_t, gi_si_e, gi_si_n, gp_sp_e, gp_sp_n, gr_sr_e, gr_sr_n, gi_sp, gi_sr, gp_si, gp_sr, gr_si, gr_sp, upd_e, upd_n, un_e, un_n, an_sn_e, an_sn_n, an_sm, an_sv, am_sn, am_sm_e, am_sm_n, am_sv, ai_sn, ai_sm, ai_sv_e, ai_sv_n, reduceIte, or_false, false_or, or_true, true_or, or_self, and_true, true_and, and_false, false_and, not_true_eq_false, not_false_eq_true, x0, y0, Int32.not_lt.mp e]
  · simp only [show ¬ (2 : Nat) = 0 by decide, show ¬ (2 : Nat) = 1 by decide, if_false, if_true] at q
    by_cases e : qSc a x < qSc a y
    · rw [if_pos (q.mpr e)]; simp (disch := omega) only [↓bnd_s, ↓bnd2_s, ↓bnd3_s, ↓bnd4_s, ↓bnd5_s, ↓bndR_l, ↓bndR_r, ↓bndX_l, ↓bndX_r, ↓bndQ_s, ↓bndQ2_s, bndQ_s, bndQ2_s, bnd_s, bnd2_s, bnd3_s, bnd4_s, bnd5_s, bndR_l, bndR_r, bndX_l, bndX_r, nq_lt, nq_le, nq_inj, nq_add, nq_mul, nq_sub, nq_div, nq_neg1, nq_clamp, nq_ne1, nq_le1, ne1_lt, n1_lt0, n1_lt, n1_ne, nz0, nz1, nz2, nz3, nz4, nz5, nz6, nz8, nz10, nz31, nz32, nz50, nz400, nz800, nz3200, nz20000, nlt_f, nlt_t, nle_f, nle_t, neq_f, neq_t, gi_si_e, gi_si_n, gp_sp_e, gp_sp_n, gr_sr_e, gr_sr_n, gi_sp, gi_sr, gp_si, gp_sr, gr_si, gr_sp, upd_e, upd_n, un_e, un_n, an_sn_e, an_sn_n, an_sm, an_sv, am_sn, am_sm_e, am_sm_n, am_sv, ai_sn, ai_sm, ai_sv_e, ai_sv_n, reduceIte, or_false, false_or, or_true, true_or, or_self, and_true, true_and, and_false, false_and, not_true_eq_false, not_false_eq_true, x1, y1, Int32.not_le.mpr e]
    · rw [if_neg (fun z => e (q.mp z))]; simp (disch := omega) only [↓bnd_s, ↓bnd2_s, ↓bnd3_s, ↓bnd4_s, ↓bnd5_s, ↓bndR_l, ↓bndR_r, ↓bndX_l, ↓bndX_r, ↓bndQ_s, ↓bndQ2_s, bndQ_s, bndQ2_s, bnd_s, bnd2_s, bnd3_s, bnd4_s, bnd5_s, bndR_l, bndR_r, bndX_l, bndX_r, nq_lt, nq_le, nq_inj, nq_add, nq_mul, nq_sub, nq_div, nq_neg1, nq_clamp, nq_ne1, nq_le1, ne1_lt, n1_lt0, n1_lt, n1_ne, nz0, nz1, nz2, nz3, nz4, nz5, nz6, nz8, nz10, nz31, nz32, nz50, nz400, nz800, nz3200, nz20000, nlt_f, nlt_t, nle_f, nle_t, neq_f, neq_t, gi_si_e, gi_si_n, gp_sp_e, gp_sp_n, gr_sr_e, gr_sr_n, gi_sp, gi_sr, gp_si, gp_sr, gr_si, gr_sp, upd_e, upd_n, un_e, un_n, an_sn_e, an_sn_n, an_sm, an_sv, am_sn, am_sm_e, am_sm_n, am_sv, ai_sn, ai_sm, ai_sv_e, ai_sv_n, reduceIte, or_false, false_or, or_true, true_or, or_self, and_true, true_and, and_false, false_and, not_true_eq_false, not_false_eq_true, x1, y1, Int32.not_lt.mp e]
  · simp only [show ¬ (3 : Nat) = 0 by decide, show ¬ (3 : Nat) = 1 by decide, show ¬ (3 : Nat) = 2 by decide, if_false] at q
    by_cases e : qFs a x < qFs a y
    · rw [if_pos (q.mpr (Or.inl e))]; simp (disch := omega) only [↓bnd_s, ↓bnd2_s, ↓bnd3_s, ↓bnd4_s, ↓bnd5_s, ↓bndR_l, ↓bndR_r, ↓bndX_l, ↓bndX_r, ↓bndQ_s, ↓bndQ2_s, bndQ_s, bndQ2_s, bnd_s, bnd2_s, bnd3_s, bnd4_s, bnd5_s, bndR_l, bndR_r, bndX_l, bndX_r, nq_lt, nq_le, nq_inj, nq_add, nq_mul, nq_sub, nq_div, nq_neg1, nq_clamp, nq_ne1, nq_le1, ne1_lt, n1_lt0, n1_lt, n1_ne, nz0, nz1, nz2, nz3, nz4, nz5, nz6, nz8, nz10, nz31, nz32, nz50, nz400, nz800, nz3200, nz20000, nlt_f, nlt_t, nle_f, nle_t, neq_f, neq_t, gi_si_e, gi_si_n, gp_sp_e, gp_sp_n, gr_sr_e, gr_sr_n, gi_sp, gi_sr, gp_si, gp_sr, gr_si, gr_sp, upd_e, upd_n, un_e, un_n, an_sn_e, an_sn_n, an_sm, an_sv, am_sn, am_sm_e, am_sm_n, am_sv, ai_sn, ai_sm, ai_sv_e, ai_sv_n, reduceIte, or_false, false_or, or_true, true_or, or_self, and_true, true_and, and_false, false_and, not_true_eq_false, not_false_eq_true, x0, y0, e]
    · by_cases e2 : qFs a x = qFs a y
      · by_cases e3 : qSc a x < qSc a y
        · rw [if_pos (q.mpr (Or.inr ⟨e2, e3⟩))]; simp (disch := omega) only [↓bnd_s, ↓bnd2_s, ↓bnd3_s, ↓bnd4_s, ↓bnd5_s, ↓bndR_l, ↓bndR_r, ↓bndX_l, ↓bndX_r, ↓bndQ_s, ↓bndQ2_s, bndQ_s, bndQ2_s, bnd_s, bnd2_s, bnd3_s, bnd4_s, bnd5_s, bndR_l, bndR_r, bndX_l, bndX_r, nq_lt, nq_le, nq_inj, nq_add, nq_mul, nq_sub, nq_div, nq_neg1, nq_clamp, nq_ne1, nq_le1, ne1_lt, n1_lt0, n1_lt, n1_ne, nz0, nz1, nz2, nz3, nz4, nz5, nz6, nz8, nz10, nz31, nz32, nz50, nz400, nz800, nz3200, nz20000, nlt_f, nlt_t, nle_f, nle_t, neq_f, neq_t, gi_si_e, gi_si_n, gp_sp_e, gp_sp_n, gr_sr_e, gr_sr_n, gi_sp, gi_sr, gp_si, gp_sr, gr_si, gr_sp, upd_e, upd_n, un_e, un_n, an_sn_e, an_sn_n, an_sm, an_sv, am_sn, am_sm_e, am_sm_n, am_sv, ai_sn, ai_sm, ai_sv_e, ai_sv_n, reduceIte, or_false, false_or, or_true, true_or, or_self, and_true, true_and, and_false, false_and, not_true_eq_false, not_false_eq_true, x0, y0, x1, y1, e2, Int32.lt_irrefl, Int32.not_le.mpr e3]
        · rw [if_neg (fun z => (q.mp z).elim e (fun z => e3 z.2))]; simp (disch := omega) only [↓bnd_s, ↓bnd2_s, ↓bnd3_s, ↓bnd4_s, ↓bnd5_s, ↓bndR_l, ↓bndR_r, ↓bndX_l, ↓bndX_r, ↓bndQ_s, ↓bndQ2_s, bndQ_s, bndQ2_s, bnd_s, bnd2_s, bnd3_s, bnd4_s, bnd5_s, bndR_l, bndR_r, bndX_l, bndX_r, nq_lt, nq_le, nq_inj, nq_add, nq_mul, nq_sub, nq_div, nq_neg1, nq_clamp, nq_ne1, nq_le1, ne1_lt, n1_lt0, n1_lt, n1_ne, nz0, nz1, nz2, nz3, nz4, nz5, nz6, nz8, nz10, nz31, nz32, nz50, nz400, nz800, nz3200, nz20000, nlt_f, nlt_t, nle_f, nle_t, neq_f, neq_t, gi_si_e, gi_si_n, gp_sp_e, gp_sp_n, gr_sr_e, gr_sr_n, gi_sp, gi_sr, gp_si, gp_sr, gr_si, gr_sp, upd_e, upd_n, un_e, un_n, an_sn_e, an_sn_n, an_sm, an_sv, am_sn, am_sm_e, am_sm_n, am_sv, ai_sn, ai_sm, ai_sv_e, ai_sv_n, reduceIte, or_false, false_or, or_true, true_or, or_self, and_true, true_and, and_false, false_and, not_true_eq_false, not_false_eq_true, x0, y0, x1, y1, e2, Int32.lt_irrefl, Int32.not_lt.mp e3]
      · rw [if_neg (fun z => (q.mp z).elim e (fun z => e2 z.1))]; simp (disch := omega) only [↓bnd_s, ↓bnd2_s, ↓bnd3_s, ↓bnd4_s, ↓bnd5_s, ↓bndR_l, ↓bndR_r, ↓bndX_l, ↓bndX_r, ↓bndQ_s, ↓bndQ2_s, bndQ_s, bndQ2_s, bnd_s, bnd2_s, bnd3_s, bnd4_s, bnd5_s, bndR_l, bndR_r, bndX_l, bndX_r, nq_lt, nq_le, nq_inj, nq_add, nq_mul, nq_sub, nq_div, nq_neg1, nq_clamp, nq_ne1, nq_le1, ne1_lt, n1_lt0, n1_lt, n1_ne, nz0, nz1, nz2, nz3, nz4, nz5, nz6, nz8, nz10, nz31, nz32, nz50, nz400, nz800, nz3200, nz20000, nlt_f, nlt_t, nle_f, nle_t, neq_f, neq_t, gi_si_e, gi_si_n, gp_sp_e, gp_sp_n, gr_sr_e, gr_sr_n, gi_sp, gi_sr, gp_si, gp_sr, gr_si, gr_sp, upd_e, upd_n, un_e, un_n, an_sn_e, an_sn_n, an_sm, an_sv, am_sn, am_sm_e, am_sm_n, am_sv, ai_sn, ai_sm, ai_sv_e, ai_sv_n, reduceIte, or_false, false_or, or_true, true_or, or_self, and_true, true_and, and_false, false_and, not_true_eq_false, not_false_eq_true, x0, y0, e, e2]
theorem gL_seg (L : List Int32) : seg (gL L) 0 L.length = L := by
  refine List.ext_getElem? fun k => ?_
  by_cases hk : k < L.length
  · rw [seg_get _ _ _ _ hk, Nat.zero_add]
    unfold gL
    rw [List.getElem?_eq_getElem hk]; rfl
  · rw [List.getElem?_eq_none (by rw [seg_len]; omega), List.getElem?_eq_none (by omega)]
theorem gL_at {L : List Int32} {k : Nat} (hk : k < L.length) : L[k]? = some (gL L k) := by
  unfold gL
  rw [List.getElem?_eq_getElem hk]; rfl
theorem unu_spl {u f : Nat → Int32} {lo o hi : Nat} (h1 : lo ≤ o) (h2 : o < hi) : unu u f lo (hi - lo) = unu u f lo (o - lo) ++ ((if u o = 0 then [f o] else []) ++ unu u f (o + 1) (hi - (o + 1))) := by
  have e1 := unu_app u f (o - lo) (hi - o) lo
  rw [show o - lo + (hi - o) = hi - lo by omega, show lo + (o - lo) = o by omega] at e1
  have e2 := unu_app u f 1 (hi - (o + 1)) o
  rw [show 1 + (hi - (o + 1)) = hi - o by omega, unu_1] at e2
  rw [e1, e2]
section DU
variable {g t lo hi : Nat} {L : List Int32}
/-- the first least one that is left -/
theorem dueA (hL : L.length ≤ 3200) (ht : t < 4) (hhi : hi ≤ L.length) (h : GD a g L ρ) : ∀ (d : Nat) {fu k o : Nat}, hi - k = d → d < fu → k ≤ hi → lo ≤ o → o < k → gr ρ 13 o = 0 → (∀ x, x ∈ unu (gr ρ 13) (gL L) lo (o - lo) → ky a t (gL L o) < ky a t x) → (∀ x, x ∈ unu (gr ρ 13) (gL L) (o + 1) (k - (o + 1)) → ky a t (gL L o) ≤ ky a t x) →
    ∃ p, lo ≤ p ∧ p < hi ∧ gr ρ 13 p = 0 ∧ f_L_due_L39 g (nI hi) (nI t) ρ fu (nI o) (nI k) = some (nI p) ∧ (∀ x, x ∈ unu (gr ρ 13) (gL L) lo (p - lo) → ky a t (gL L p) < ky a t x) ∧ (∀ x, x ∈ unu (gr ρ 13) (gL L) (p + 1) (hi - (p + 1)) → ky a t (gL L p) ≤ ky a t x) := by
  intro d
  induction d with
  | zero =>
    intro fu k o hd hf hk hlo ho hu h1 h2
    obtain ⟨fu, rfl⟩ : ∃ f, fu = f + 1 := ⟨fu - 1, by omega⟩
    have e : k = hi := by omega
    subst e
    exact ⟨o, hlo, ho, hu, by unfold f_L_due_L39; simp (disch := omega) only [↓bnd_s, ↓bnd2_s, ↓bnd3_s, ↓bnd4_s, ↓bnd5_s, ↓bndR_l, ↓bndR_r, ↓bndX_l, ↓bndX_r, ↓bndQ_s, ↓bndQ2_s, bndQ_s, bndQ2_s, bnd_s, bnd2_s, bnd3_s, bnd4_s, bnd5_s, bndR_l, bndR_r, bndX_l, bndX_r, nq_lt, nq_le, nq_inj, nq_add, nq_mul, nq_sub, nq_div, nq_neg1, nq_clamp, nq_ne1, nq_le1, ne1_lt, n1_lt0, n1_lt, n1_ne, nz0, nz1, nz2, nz3, nz4, nz5, nz6, nz8, nz10, nz31, nz32, nz50, nz400, nz800, nz3200, nz20000, nlt_f, nlt_t, nle_f, nle_t, neq_f, neq_t, gi_si_e, gi_si_n, gp_sp_e, gp_sp_n, gr_sr_e, gr_sr_n, gi_sp, gi_sr, gp_si, gp_sr, gr_si, gr_sp, upd_e, upd_n, un_e, un_n, an_sn_e, an_sn_n, an_sm, an_sv, am_sn, am_sm_e, am_sm_n, am_sv, ai_sn, ai_sm, ai_sv_e, ai_sv_n, reduceIte, or_false, false_or, or_true, true_or, or_self, and_true, true_and, and_false, false_and, not_true_eq_false, not_false_eq_true], h1, h2⟩
  | succ d ih =>
    intro fu k o hd hf hk hlo ho hu h1 h2
    obtain ⟨fu, rfl⟩ : ∃ f, fu = f + 1 := ⟨fu - 1, by omega⟩
    have hkn : k < hi := by omega
    have hsp : unu (gr ρ 13) (gL L) (o + 1) (k + 1 - (o + 1)) = unu (gr ρ 13) (gL L) (o + 1) (k - (o + 1)) ++ (if gr ρ 13 k = 0 then [gL L k] else []) := by
      have := unu_app (gr ρ 13) (gL L) (k - (o + 1)) 1 (o + 1)
      rw [show k - (o + 1) + 1 = k + 1 - (o + 1) by omega, unu_1, show o + 1 + (k - (o + 1)) = k by omega] at this
      exact this
    by_cases eu : gr ρ 13 k = 0
    · rw [if_pos eu] at hsp
      have ah := L_isAhead (ρ := ρ) (g := g) (i := k) (k := o) ht (by omega) (by omega) (fun w hw => h k _ w (by omega) hw (gL_at (show k < L.length by omega))) (fun w hw => h o _ w (by omega) hw (gL_at (show o < L.length by omega)))
      by_cases e : ky a t (gL L k) < ky a t (gL L o)
      · rw [if_pos e] at ah
        obtain ⟨p, g0, g1, g2, g3, g4, g5⟩ := ih (fu := fu) (k := k + 1) (o := k) (by omega) (by omega) (by omega) (by omega) (by omega) eu (fun x hx => by
          rw [unu_spl hlo ho, if_pos hu] at hx
          rcases List.mem_append.mp hx with hx | hx
          · have := h1 x hx; omega
          · rcases List.mem_append.mp hx with hx | hx
            · rw [List.mem_singleton.mp hx]; exact e
            · have := h2 x hx; omega) (fun x hx => by
          rw [Nat.sub_self] at hx; exact (nomatch hx))
        refine ⟨p, g0, g1, g2, ?_, g4, g5⟩
        unfold f_L_due_L39
        simp (disch := omega) only [↓bnd_s, ↓bnd2_s, ↓bnd3_s, ↓bnd4_s, ↓bnd5_s, ↓bndR_l, ↓bndR_r, ↓bndX_l, ↓bndX_r, ↓bndQ_s, ↓bndQ2_s, bndQ_s, bndQ2_s, bnd_s, bnd2_s, bnd3_s, bnd4_s, bnd5_s, bndR_l, bndR_r, bndX_l, bndX_r, nq_lt, nq_le, nq_inj, nq_add, nq_mul, nq_sub, nq_div, nq_neg1, nq_clamp, nq_ne1, nq_le1, ne1_lt, n1_lt0, n1_lt, n1_ne, nz0, nz1, nz2, nz3, nz4, nz5, nz6, nz8, nz10, nz31, nz32, nz50, nz400, nz800, nz3200, nz20000, nlt_f, nlt_t, nle_f, nle_t, neq_f, neq_t, gi_si_e, gi_si_n, gp_sp_e, gp_sp_n, gr_sr_e, gr_sr_n, gi_sp, gi_sr, gp_si, gp_sr, gr_si, gr_sp, upd_e, upd_n, un_e, un_n, an_sn_e, an_sn_n, an_sm, an_sv, am_sn, am_sm_e, am_sm_n, am_sv, ai_sn, ai_sm, ai_sv_e, ai_sv_n, reduceIte, or_false, false_or, or_true, true_or, or_self, and_true, true_and, and_false, false_and, not_true_eq_false, not_false_eq_true, eu, ah]
        exact g3
      · rw [if_neg e] at ah
        obtain ⟨p, g0, g1, g2, g3, g4, g5⟩ := ih (fu := fu) (k := k + 1) (o := o) (by omega) (by omega) (by omega) hlo (by omega) hu h1 (fun x hx => by
          rw [hsp] at hx
          rcases List.mem_append.mp hx with hx | hx
          · exact h2 x hx
          · rw [List.mem_singleton.mp hx]; omega)
        refine ⟨p, g0, g1, g2, ?_, g4, g5⟩
        unfold f_L_due_L39
        simp (disch := omega) only [↓bnd_s, ↓bnd2_s, ↓bnd3_s, ↓bnd4_s, ↓bnd5_s, ↓bndR_l, ↓bndR_r, ↓bndX_l, ↓bndX_r, ↓bndQ_s, ↓bndQ2_s, bndQ_s, bndQ2_s, bnd_s, bnd2_s, bnd3_s, bnd4_s, bnd5_s, bndR_l, bndR_r, bndX_l, bndX_r, nq_lt, nq_le, nq_inj, nq_add, nq_mul, nq_sub, nq_div, nq_neg1, nq_clamp, nq_ne1, nq_le1, ne1_lt, n1_lt0, n1_lt, n1_ne, nz0, nz1, nz2, nz3, nz4, nz5, nz6, nz8, nz10, nz31, nz32, nz50, nz400, nz800, nz3200, nz20000, nlt_f, nlt_t, nle_f, nle_t, neq_f, neq_t, gi_si_e, gi_si_n, gp_sp_e, gp_sp_n, gr_sr_e, gr_sr_n, gi_sp, gi_sr, gp_si, gp_sr, gr_si, gr_sp, upd_e, upd_n, un_e, un_n, an_sn_e, an_sn_n, an_sm, an_sv, am_sn, am_sm_e, am_sm_n, am_sv, ai_sn, ai_sm, ai_sv_e, ai_sv_n, reduceIte, or_false, false_or, or_true, true_or, or_self, and_true, true_and, and_false, false_and, not_true_eq_false, not_false_eq_true, eu, ah]
        exact g3
    · rw [if_neg eu, List.append_nil] at hsp
      obtain ⟨p, g0, g1, g2, g3, g4, g5⟩ := ih (fu := fu) (k := k + 1) (o := o) (by omega) (by omega) (by omega) hlo (by omega) hu h1 (by rw [hsp]; exact h2)
      refine ⟨p, g0, g1, g2, ?_, g4, g5⟩
      rw [nz0] at eu
      unfold f_L_due_L39
      simp (disch := omega) only [↓bnd_s, ↓bnd2_s, ↓bnd3_s, ↓bnd4_s, ↓bnd5_s, ↓bndR_l, ↓bndR_r, ↓bndX_l, ↓bndX_r, ↓bndQ_s, ↓bndQ2_s, bndQ_s, bndQ2_s, bnd_s, bnd2_s, bnd3_s, bnd4_s, bnd5_s, bndR_l, bndR_r, bndX_l, bndX_r, nq_lt, nq_le, nq_inj, nq_add, nq_mul, nq_sub, nq_div, nq_neg1, nq_clamp, nq_ne1, nq_le1, ne1_lt, n1_lt0, n1_lt, n1_ne, nz0, nz1, nz2, nz3, nz4, nz5, nz6, nz8, nz10, nz31, nz32, nz50, nz400, nz800, nz3200, nz20000, nlt_f, nlt_t, nle_f, nle_t, neq_f, neq_t, gi_si_e, gi_si_n, gp_sp_e, gp_sp_n, gr_sr_e, gr_sr_n, gi_sp, gi_sr, gp_si, gp_sr, gr_si, gr_sp, upd_e, upd_n, un_e, un_n, an_sn_e, an_sn_n, an_sm, an_sv, am_sn, am_sm_e, am_sm_n, am_sv, ai_sn, ai_sm, ai_sv_e, ai_sv_n, reduceIte, or_false, false_or, or_true, true_or, or_self, and_true, true_and, and_false, false_and, not_true_eq_false, not_false_eq_true, eu]
      exact g3
theorem dueN (hL : L.length ≤ 3200) (ht : t < 4) (hhi : hi ≤ L.length) (h : GD a g L ρ) (hne : unu (gr ρ 13) (gL L) lo (hi - lo) ≠ []) : ∀ (d : Nat) {fu k : Nat}, hi - k = d → d < fu → lo ≤ k → k ≤ hi → unu (gr ρ 13) (gL L) lo (k - lo) = [] →
    ∃ p, lo ≤ p ∧ p < hi ∧ gr ρ 13 p = 0 ∧ f_L_due_L39 g (nI hi) (nI t) ρ fu (-nI 1) (nI k) = some (nI p) ∧ (∀ x, x ∈ unu (gr ρ 13) (gL L) lo (p - lo) → ky a t (gL L p) < ky a t x) ∧ (∀ x, x ∈ unu (gr ρ 13) (gL L) (p + 1) (hi - (p + 1)) → ky a t (gL L p) ≤ ky a t x) := by
  intro d
  induction d with
  | zero =>
    intro fu k hd hf hlo hk h1
    have e : k = hi := by omega
    subst e
    exact absurd h1 hne
  | succ d ih =>
    intro fu k hd hf hlo hk h1
    obtain ⟨fu, rfl⟩ : ∃ f, fu = f + 1 := ⟨fu - 1, by omega⟩
    have hkn : k < hi := by omega
    by_cases eu : gr ρ 13 k = 0
    · obtain ⟨p, g0, g1, g2, g3, g4, g5⟩ := dueA (lo := lo) hL ht hhi h d (fu := fu) (k := k + 1) (o := k) (by omega) (by omega) (by omega) hlo (by omega) eu (fun x hx => by rw [h1] at hx; exact (nomatch hx)) (fun x hx => by rw [Nat.sub_self] at hx; exact (nomatch hx))
      refine ⟨p, g0, g1, g2, ?_, g4, g5⟩
      unfold f_L_due_L39
      simp (disch := omega) only [↓bnd_s, ↓bnd2_s, ↓bnd3_s, ↓bnd4_s, ↓bnd5_s, ↓bndR_l, ↓bndR_r, ↓bndX_l, ↓bndX_r, ↓bndQ_s, ↓bndQ2_s, bndQ_s, bndQ2_s, bnd_s, bnd2_s, bnd3_s, bnd4_s, bnd5_s, bndR_l, bndR_r, bndX_l, bndX_r, nq_lt, nq_le, nq_inj, nq_add, nq_mul, nq_sub, nq_div, nq_neg1, nq_clamp, nq_ne1, nq_le1, ne1_lt, n1_lt0, n1_lt, n1_ne, nz0, nz1, nz2, nz3, nz4, nz5, nz6, nz8, nz10, nz31, nz32, nz50, nz400, nz800, nz3200, nz20000, nlt_f, nlt_t, nle_f, nle_t, neq_f, neq_t, gi_si_e, gi_si_n, gp_sp_e, gp_sp_n, gr_sr_e, gr_sr_n, gi_sp, gi_sr, gp_si, gp_sr, gr_si, gr_sp, upd_e, upd_n, un_e, un_n, an_sn_e, an_sn_n, an_sm, an_sv, am_sn, am_sm_e, am_sm_n, am_sv, ai_sn, ai_sm, ai_sv_e, ai_sv_n, reduceIte, or_false, false_or, or_true, true_or, or_self, and_true, true_and, and_false, false_and, not_true_eq_false, not_false_eq_true, eu]
      exact g3
    · obtain ⟨p, g0, g1, g2, g3, g4, g5⟩ := ih (fu := fu) (k := k + 1) (by omega) (by omega) (by omega) (by omega) (by
        have e1 := unu_app (gr ρ 13) (gL L) (k - lo) 1 lo
        rw [show k - lo + 1 = k + 1 - lo by omega, h1, unu_1, show lo + (k - lo) = k by omega, if_neg eu] at e1
        exact e1)
      refine ⟨p, g0, g1, g2, ?_, g4, g5⟩
      rw [nz0] at eu
      unfold f_L_due_L39
      simp (disch := omega) only [↓bnd_s, ↓bnd2_s, ↓bnd3_s, ↓bnd4_s, ↓bnd5_s, ↓bndR_l, ↓bndR_r, ↓bndX_l, ↓bndX_r, ↓bndQ_s, ↓bndQ2_s, bndQ_s, bndQ2_s, bnd_s, bnd2_s, bnd3_s, bnd4_s, bnd5_s, bndR_l, bndR_r, bndX_l, bndX_r, nq_lt, nq_le, nq_inj, nq_add, nq_mul, nq_sub, nq_div, nq_neg1, nq_clamp, nq_ne1, nq_le1, ne1_lt, n1_lt0, n1_lt, n1_ne, nz0, nz1, nz2, nz3, nz4, nz5, nz6, nz8, nz10, nz31, nz32, nz50, nz400, nz800, nz3200, nz20000, nlt_f, nlt_t, nle_f, nle_t, neq_f, neq_t, gi_si_e, gi_si_n, gp_sp_e, gp_sp_n, gr_sr_e, gr_sr_n, gi_sp, gi_sr, gp_si, gp_sr, gr_si, gr_sp, upd_e, upd_n, un_e, un_n, an_sn_e, an_sn_n, an_sm, an_sv, am_sn, am_sm_e, am_sm_n, am_sv, ai_sn, ai_sm, ai_sv_e, ai_sv_n, reduceIte, or_false, false_or, or_true, true_or, or_self, and_true, true_and, and_false, false_and, not_true_eq_false, not_false_eq_true, eu]
      exact g3
/-- the flags and one grid may change -/
def dF (g : Nat) (ρ ρ' : St) : Prop := ∀ i, i ≠ 13 → (i < 4 + 3 * g ∨ 7 + 3 * g ≤ i) → gr ρ' i = gr ρ i
theorem dF.trans {g : Nat} {ρ ρ' ρ2 : St} (h : dF g ρ ρ') (h2 : dF g ρ' ρ2) : dF g ρ ρ2 := fun i a b => (h2 i a b).trans (h i a b)
theorem gF.d {g : Nat} {ρ ρ' : St} (h : gF g ρ ρ') : dF g ρ ρ' := fun i _ b => h i b
theorem dF.s13 (g : Nat) (ρ : St) (f : Nat → Int32) : dF g ρ (sr ρ 13 f) := fun i a _ => gr_sr_n _ _ a
theorem GDn.df {a : AS} {g g' : Nat} {L : List Int32} {n : Nat} {ρ ρ' : St} (h : GDn a g L n ρ) (e : dF g' ρ ρ') (hg : g < 3) (hne : g ≠ g') : GDn a g L n ρ' := h.fr fun w hw => e _ (by omega) (by omega)
theorem dueZ (hhi : hi ≤ 3200) : ∀ (d : Nat) {fu i : Nat} {ρ : St}, hi - i = d → d < fu → lo ≤ i → i ≤ hi → (∀ k, lo ≤ k → k < i → gr ρ 13 k = 0) →
    ∃ U, f_L_due_L6 (nI hi) fu (nI i) ρ = some (sr ρ 13 U) ∧ ∀ k, lo ≤ k → k < hi → U k = 0 := by
  intro d
  induction d with
  | zero =>
    intro fu i ρ hd hf hlo hi2 hu
    obtain ⟨fu, rfl⟩ : ∃ f, fu = f + 1 := ⟨fu - 1, by omega⟩
    have e : i = hi := by omega
    subst e
    exact ⟨gr ρ 13, by rw [sr_id]; unfold f_L_due_L6; simp (disch := omega) only [↓bnd_s, ↓bnd2_s, ↓bnd3_s, ↓bnd4_s, ↓bnd5_s, ↓bndR_l, ↓bndR_r, ↓bndX_l, ↓bndX_r, ↓bndQ_s, ↓bndQ2_s, bndQ_s, bndQ2_s, bnd_s, bnd2_s, bnd3_s, bnd4_s, bnd5_s, bndR_l, bndR_r, bndX_l, bndX_r, nq_lt, nq_le, nq_inj, nq_add, nq_mul, nq_sub, nq_div, nq_neg1, nq_clamp, nq_ne1, nq_le1, ne1_lt, n1_lt0, n1_lt, n1_ne, nz0, nz1, nz2, nz3, nz4, nz5, nz6, nz8, nz10, nz31, nz32, nz50, nz400, nz800, nz3200, nz20000, nlt_f, nlt_t, nle_f, nle_t, neq_f, neq_t, gi_si_e, gi_si_n, gp_sp_e, gp_sp_n, gr_sr_e, gr_sr_n, gi_sp, gi_sr, gp_si, gp_sr, gr_si, gr_sp, upd_e, upd_n, un_e, un_n, an_sn_e, an_sn_n, an_sm, an_sv, am_sn, am_sm_e, am_sm_n, am_sv, ai_sn, ai_sm, ai_sv_e, ai_sv_n, reduceIte, or_false, false_or, or_true, true_or, or_self, and_true, true_and, and_false, false_and, not_true_eq_false, not_false_eq_true], hu⟩
  | succ d ih =>
    intro fu i ρ hd hf hlo hi2 hu
    obtain ⟨fu, rfl⟩ : ∃ f, fu = f + 1 := ⟨fu - 1, by omega⟩
    obtain ⟨U, g1, g2⟩ := ih (fu := fu) (i := i + 1) (ρ := sr ρ 13 (upd (gr ρ 13) i 0)) (by omega) (by omega) (by omega) (by omega) (fun k h1 hk => by
      rw [gr_sr_e _ _ rfl]
      by_cases e : k = i
      · rw [upd_e _ _ e]
      · rw [upd_n _ _ e]; exact hu k h1 (by omega))
    rw [sr_sr] at g1
    refine ⟨U, ?_, g2⟩
    unfold f_L_due_L6
    simp (disch := omega) only [↓bnd_s, ↓bnd2_s, ↓bnd3_s, ↓bnd4_s, ↓bnd5_s, ↓bndR_l, ↓bndR_r, ↓bndX_l, ↓bndX_r, ↓bndQ_s, ↓bndQ2_s, bndQ_s, bndQ2_s, bnd_s, bnd2_s, bnd3_s, bnd4_s, bnd5_s, bndR_l, bndR_r, bndX_l, bndX_r, nq_lt, nq_le, nq_inj, nq_add, nq_mul, nq_sub, nq_div, nq_neg1, nq_clamp, nq_ne1, nq_le1, ne1_lt, n1_lt0, n1_lt, n1_ne, nz0, nz1, nz2, nz3, nz4, nz5, nz6, nz8, nz10, nz31, nz32, nz50, nz400, nz800, nz3200, nz20000, nlt_f, nlt_t, nle_f, nle_t, neq_f, neq_t, gi_si_e, gi_si_n, gp_sp_e, gp_sp_n, gr_sr_e, gr_sr_n, gi_sp, gi_sr, gp_si, gp_sr, gr_si, gr_sp, upd_e, upd_n, un_e, un_n, an_sn_e, an_sn_n, an_sm, an_sv, am_sn, am_sm_e, am_sm_n, am_sv, ai_sn, ai_sm, ai_sv_e, ai_sv_n, reduceIte, or_false, false_or, or_true, true_or, or_self, and_true, true_and, and_false, false_and, not_true_eq_false, not_false_eq_true, nar0]
    exact g1
theorem dueO {g' : Nat} (hg : g < 3) (hg' : g' < 3) (hne : g ≠ g') (hL : L.length ≤ 3200) (ht : t < 4) (hhi : hi ≤ L.length) {S : List Int32} : ∀ (d : Nat) {fu k : Nat} {ρ : St}, GD a g L ρ → hi - k = d → d < fu → lo ≤ k → k ≤ hi → S.length = hi - lo → SRT (ky a t) (unu (gr ρ 13) (gL L) lo (hi - lo)) (S.drop (k - lo)) →
    ∃ ρ', f_L_due_L27 g (nI lo) (nI hi) (nI t) g' fu (nI (dif (gL S) (fun j => gL L (lo + j)) (k - lo))) (nI k) ρ = some (nI (dif (gL S) (fun j => gL L (lo + j)) (hi - lo)), ρ') ∧ dF g' ρ ρ' ∧ (∀ w q, w < 3 → (q < k ∨ hi ≤ q) → gr ρ' (4 + 3 * g' + w) q = gr ρ (4 + 3 * g' + w) q) ∧ ∀ (j : Nat) (x : Int32) (w : Nat), k ≤ lo + j → w < 3 → S[j]? = some x → gr ρ' (4 + 3 * g' + w) (lo + j) = qWf a w x := by
  intro d
  induction d with
  | zero =>
    intro fu k ρ h hd hf hlo hk hSl hs
    obtain ⟨fu, rfl⟩ : ∃ f, fu = f + 1 := ⟨fu - 1, by omega⟩
    have e : k = hi := by omega
    subst e
    refine ⟨ρ, by unfold f_L_due_L27; simp (disch := omega) only [↓bnd_s, ↓bnd2_s, ↓bnd3_s, ↓bnd4_s, ↓bnd5_s, ↓bndR_l, ↓bndR_r, ↓bndX_l, ↓bndX_r, ↓bndQ_s, ↓bndQ2_s, bndQ_s, bndQ2_s, bnd_s, bnd2_s, bnd3_s, bnd4_s, bnd5_s, bndR_l, bndR_r, bndX_l, bndX_r, nq_lt, nq_le, nq_inj, nq_add, nq_mul, nq_sub, nq_div, nq_neg1, nq_clamp, nq_ne1, nq_le1, ne1_lt, n1_lt0, n1_lt, n1_ne, nz0, nz1, nz2, nz3, nz4, nz5, nz6, nz8, nz10, nz31, nz32, nz50, nz400, nz800, nz3200, nz20000, nlt_f, nlt_t, nle_f, nle_t, neq_f, neq_t, gi_si_e, gi_si_n, gp_sp_e, gp_sp_n, gr_sr_e, gr_sr_n, gi_sp, gi_sr, gp_si, gp_sr, gr_si, gr_sp, upd_e, upd_n, un_e, un_n, an_sn_e, an_sn_n, an_sm, an_sv, am_sn, am_sm_e, am_sm_n, am_sv, ai_sn, ai_sm, ai_sv_e, ai_sv_n, reduceIte, or_false, false_or, or_true, true_or, or_self, and_true, true_and, and_false, false_and, not_true_eq_false, not_false_eq_true], fun _ _ _ => rfl, fun _ _ _ _ => rfl, fun j x w hj hw hx => ?_⟩
    have := (List.getElem?_eq_some_iff.mp hx).1
    omega
  | succ d ih =>
    intro fu k ρ h hd hf hlo hk hSl hs
    obtain ⟨fu, rfl⟩ : ∃ f, fu = f + 1 := ⟨fu - 1, by omega⟩
    have hkl : k - lo < S.length := by omega
    have hne0 : unu (gr ρ 13) (gL L) lo (hi - lo) ≠ [] := fun e => by
      have := hs.len
      rw [e, List.length_drop, List.length_nil] at this
      omega
    obtain ⟨p, g0, g1, g2, g3, g4, g5⟩ := dueN hL ht hhi h hne0 (hi - lo) (fu := FU) (k := lo) rfl (by unfold FU; omega) (Nat.le_refl _) (by omega) (by rw [Nat.sub_self]; rfl)
    rw [unu_spl g0 g1, if_pos g2, List.singleton_append, List.drop_eq_getElem_cons hkl] at hs
    obtain ⟨e1, e2⟩ := first_least hs g4 g5
    have eS : S[k - lo]? = some (gL L p) := by rw [List.getElem?_eq_getElem hkl, e1]
    have hpx : ∀ w, w < 3 → gr ρ (4 + 3 * g + w) p = qWf a w (gL L p) := fun w hw => h p _ w (by omega) hw (gL_at (by omega))
    have hpk : ∀ w, w < 3 → gr ρ (4 + 3 * g + w) k = qWf a w (gL L k) := fun w hw => h k _ w (by omega) hw (gL_at (by omega))
    have d1 := dF.s13 g' ρ (upd (gr ρ 13) p 1)
    have cp := L_copies' (a := a) (g := g) (g' := g') (i := p) (k := k) (x := gL L p) (ρ := sr ρ 13 (upd (gr ρ 13) p 1)) hne (by omega) (by omega) (fun w hw => by rw [gr_sr_n _ _ (by omega)]; exact hpx w hw)
    have d2 : dF g' ρ (set3 (sr ρ 13 (upd (gr ρ 13) p 1)) g' k (qWf a 0 (gL L p)) (qWf a 1 (gL L p)) (qWf a 2 (gL L p))) := d1.trans set3_F.d
    have hG := h.df d2 hg hne
    have e13 : gr (set3 (sr ρ 13 (upd (gr ρ 13) p 1)) g' k (qWf a 0 (gL L p)) (qWf a 1 (gL L p)) (qWf a 2 (gL L p))) 13 = upd (gr ρ 13) p 1 := by
      rw [set3_F 13 (by omega), gr_sr_e _ _ rfl]
    obtain ⟨ρ2, hρ2⟩ : ∃ z, z = set3 (sr ρ 13 (upd (gr ρ 13) p 1)) g' k (qWf a 0 (gL L p)) (qWf a 1 (gL L p)) (qWf a 2 (gL L p)) := ⟨_, rfl⟩
    have hn2 : ∀ w q, w < 3 → q ≠ k → gr ρ2 (4 + 3 * g' + w) q = gr ρ (4 + 3 * g' + w) q := fun w q hw hq => by
      rw [hρ2, set3_n hw hq, gr_sr_n _ _ (by omega)]
    have he2 : ∀ w, w < 3 → gr ρ2 (4 + 3 * g' + w) k = qWf a w (gL L p) := fun w hw => by rw [hρ2, set3_e hw]
    rw [← hρ2] at cp d2 hG e13
    obtain ⟨ρ', k1, k2, k3, k4⟩ := ih (fu := fu) (k := k + 1) hG (by omega) (by omega) (by omega) (by omega) hSl (by
      rw [e13, unu_spl g0 g1, upd_e _ _ rfl, if_neg (by decide), List.nil_append,
        unu_congr (u := upd (gr ρ 13) p 1) (u' := gr ρ 13) (i := lo) (n := p - lo) (fun k h1 h2 => upd_n _ _ (by omega)), unu_congr (u := upd (gr ρ 13) p 1) (u' := gr ρ 13) (i := p + 1) (fun k h1 h2 => upd_n _ _ (by omega)), show k + 1 - lo = k - lo + 1 by omega]
      exact e2)
    have eo : dif (gL S) (fun j => gL L (lo + j)) (k + 1 - lo) = dif (gL S) (fun j => gL L (lo + j)) (k - lo) + if gL L p = gL L k then 0 else 1 := by
      rw [show k + 1 - lo = k - lo + 1 by omega, dif_s]
      show _ + (if gL S (k - lo) = gL L (lo + (k - lo)) then 0 else 1) = _
      rw [show gL S (k - lo) = gL L p by unfold gL; rw [eS]; rfl, show lo + (k - lo) = k by omega]
    rw [eo] at k1
    have m1 : gr ρ2 (4 + 3 * g + 2) p = gL L p := hG p _ 2 (by omega) (by decide) (gL_at (by omega))
    have m2 : gr ρ2 (4 + 3 * g + 2) k = gL L k := hG k _ 2 (by omega) (by decide) (gL_at (by omega))
    refine ⟨ρ', ?_, d2.trans k2, fun w q hw hq => ?_, fun j x w hj hw hx => ?_⟩
    · rw [nz1] at cp
      unfold f_L_due_L27
      by_cases e : gL L p = gL L k
      · rw [if_pos e, Nat.add_zero] at k1
        simp (disch := omega) only [↓bnd_s, ↓bnd2_s, ↓bnd3_s, ↓bnd4_s, ↓bnd5_s, ↓bndR_l, ↓bndR_r, ↓bndX_l, ↓bndX_r, ↓bndQ_s, ↓bndQ2_s, bndQ_s, bndQ2_s, bnd_s, bnd2_s, bnd3_s, bnd4_s, bnd5_s, bndR_l, bndR_r, bndX_l, bndX_r, nq_lt, nq_le, nq_inj, nq_add, nq_mul, nq_sub, nq_div, nq_neg1, nq_clamp, nq_ne1, nq_le1, ne1_lt, n1_lt0, n1_lt, n1_ne, nz0, nz1, nz2, nz3, nz4, nz5, nz6, nz8, nz10, nz31, nz32, nz50, nz400, nz800, nz3200, nz20000, nlt_f, nlt_t, nle_f, nle_t, neq_f, neq_t, gi_si_e, gi_si_n, gp_sp_e, gp_sp_n, gr_sr_e, gr_sr_n, gi_sp, gi_sr, gp_si, gp_sr, gr_si, gr_sp, upd_e, upd_n, un_e, un_n, an_sn_e, an_sn_n, an_sm, an_sv, am_sn, am_sm_e, am_sm_n, am_sv, ai_sn, ai_sm, ai_sv_e, ai_sv_n, reduceIte, or_false, false_or, or_true, true_or, or_self, and_true, true_and, and_false, false_and, not_true_eq_false, not_false_eq_true, g3, nar1, cp, m1, m2, e, Nat.add_zero]
        exact k1
      · rw [if_neg e] at k1
        simp (disch := omega) only [↓bnd_s, ↓bnd2_s, ↓bnd3_s, ↓bnd4_s, ↓bnd5_s, ↓bndR_l, ↓bndR_r, ↓bndX_l, ↓bndX_r, ↓bndQ_s, ↓bndQ2_s, bndQ_s, bndQ2_s, bnd_s, bnd2_s, bnd3_s, bnd4_s, bnd5_s, bndR_l, bndR_r, bndX_l, bndX_r, nq_lt, nq_le, nq_inj, nq_add, nq_mul, nq_sub, nq_div, nq_neg1, nq_clamp, nq_ne1, nq_le1, ne1_lt, n1_lt0, n1_lt, n1_ne, nz0, nz1, nz2, nz3, nz4, nz5, nz6, nz8, nz10, nz31, nz32, nz50, nz400, nz800, nz3200, nz20000, nlt_f, nlt_t, nle_f, nle_t, neq_f, neq_t, gi_si_e, gi_si_n, gp_sp_e, gp_sp_n, gr_sr_e, gr_sr_n, gi_sp, gi_sr, gp_si, gp_sr, gr_si, gr_sp, upd_e, upd_n, un_e, un_n, an_sn_e, an_sn_n, an_sm, an_sv, am_sn, am_sm_e, am_sm_n, am_sv, ai_sn, ai_sm, ai_sv_e, ai_sv_n, reduceIte, or_false, false_or, or_true, true_or, or_self, and_true, true_and, and_false, false_and, not_true_eq_false, not_false_eq_true, g3, nar1, cp, m1, m2, e]
        exact k1
    · rw [k3 w q hw (by omega)]; exact hn2 w q hw (by omega)
    · by_cases ej : k = lo + j
      · have ej2 : k - lo = j := by omega
        rw [← ej2, eS] at hx
        rw [← ej, k3 w k hw (by omega), he2 w hw, Option.some.inj hx]
      · exact k4 j x w (by omega) hw hx
/-- what a part becomes -/
theorem L_due {g' : Nat} (hg : g < 3) (hg' : g' < 3) (hne : g ≠ g') (hL : L.length ≤ 3200) (ht : t < 4) (hlo : lo ≤ hi) (hhi : hi ≤ L.length) (h : GD a g L ρ) :
    ∃ ρ', f_L_due g (nI lo) (nI hi) (nI t) g' ρ = some (nI (dif (fun j => gL L (lo + j)) (gL (isrt (ky a t) ((L.drop lo).take (hi - lo)))) (hi - lo)), ρ') ∧ dF g' ρ ρ' ∧ (∀ w q, w < 3 → (q < lo ∨ hi ≤ q) → gr ρ' (4 + 3 * g' + w) q = gr ρ (4 + 3 * g' + w) q) ∧ ∀ (j : Nat) (x : Int32) (w : Nat), w < 3 → (isrt (ky a t) ((L.drop lo).take (hi - lo)))[j]? = some x → gr ρ' (4 + 3 * g' + w) (lo + j) = qWf a w x := by
  obtain ⟨U, z1, z2⟩ := dueZ (lo := lo) (hi := hi) (by omega) (hi - lo) (fu := FU) (i := lo) (ρ := ρ) rfl (by unfold FU; omega) (Nat.le_refl _) hlo (fun k h1 h2 => by omega)
  have hSl : (isrt (ky a t) ((L.drop lo).take (hi - lo))).length = hi - lo := by rw [isrt_len, List.length_take, List.length_drop]; omega
  obtain ⟨ρ', k1, k2, k3, k4⟩ := dueO (lo := lo) (hi := hi) (g := g) (g' := g') (L := L) hg hg' hne hL ht hhi (S := isrt (ky a t) ((L.drop lo).take (hi - lo))) (hi - lo) (fu := FU) (k := lo) (ρ := sr ρ 13 U) (h.fr fun w hw => gr_sr_n _ _ (by omega)) rfl (by unfold FU; omega) (Nat.le_refl _) hlo hSl (by
    rw [gr_sr_e _ _ rfl, unu_all (fun k h1 h2 => z2 k h1 (by omega)), Nat.sub_self, List.drop_zero, seg_all (gL_seg L) hlo hhi]
    exact isrt_srt _ _ _ rfl)
  rw [Nat.sub_self, show dif (gL (isrt (ky a t) ((L.drop lo).take (hi - lo)))) (fun j => gL L (lo + j)) 0 = 0 from rfl] at k1
  rw [dif_comm] at k1
  refine ⟨ρ', ?_, (dF.s13 g' ρ U).trans k2, fun w q hw hq => by rw [k3 w q hw hq, gr_sr_n _ _ (by omega)], fun j x w hw hx => k4 j x w (by omega) hw hx⟩
  unfold f_L_due
  rw [z1, bnd_s, nz0, k1]; rfl
end DU
end LS
