/-! the text's tokens, in both programs -/
theorem si_si (σ : St) (k : Nat) (x y : Int32) : si (si σ k x) k y = si σ k y := by
  unfold si
  refine Prod.ext ?_ rfl
  funext j
  by_cases e : j = k
  · simp [e, upd]
  · simp [e, upd]
theorem si_id {σ : St} {k : Nat} {v : Int32} (h : gi σ k = v) : si σ k v = σ := by
  unfold si
  refine Prod.ext ?_ rfl
  funext j
  show upd σ.1 k v j = σ.1 j
  by_cases e : j = k
  · subst e; rw [upd_e _ _ rfl]; exact h.symm
  · rw [upd_n _ _ e]
def al (B : Nat) : Nat := if 97 ≤ B ∧ B ≤ 122 then 0 else if 48 ≤ B ∧ B ≤ 57 then 1 else 2
def tcd (B : Nat) : Nat := if al B = 0 then 1 else if al B = 1 then 2 else if B = 59 then 3 else if B = 45 then 4 else 5
def cB (B : Nat) : Int32 := (nI B).toInt8.toInt32
theorem by_all : ∀ B : Nat, B < 256 → f_X9_alphabetOf (cB B) = some (if al B = 0 then nI 0 else if al B = 1 then nI 1 else -nI 1) ∧ f_X11_isLetter (nI B) = some (if al B = 0 then nI 1 else nI 0) ∧ f_X11_isDigit (nI B) = some (if al B = 1 then nI 1 else nI 0) ∧
    (cB B = nI 32 ↔ B = 32) ∧ (nI B = nI 32 ↔ B = 32) ∧ (nI B = nI 59 ↔ B = 59) ∧ (nI B = nI 45 ↔ B = 45) ∧ (al B = 1 → cB B = nI B ∧ 48 ≤ B ∧ B ≤ 57) ∧ (cB B).toInt = if B < 128 then (B : Int) else (B : Int) - 256 := by decide +kernel
theorem cB_eq {B w : Nat} (hB : B < 256) (hw : w < 128) : (cB B = nI w) = (B = w) := by
  have h := (by_all B hB).2.2.2.2.2.2.2.2
  refine propext ⟨fun e => ?_, fun e => ?_⟩
  · rw [e, nq_toInt (by omega)] at h
    split at h <;> omega
  · subst e
    rw [if_pos hw] at h
    apply Int32.toInt_inj.mp
    rw [h, nq_toInt (by omega)]
theorem tcd_r (B : Nat) : 1 ≤ tcd B ∧ tcd B ≤ 5 := by
  unfold tcd
  split
  · omega
  · split
    · omega
    · split
      · omega
      · split <;> omega
theorem tcd_0 {B : Nat} (h : al B = 0) : tcd B = 1 := by unfold tcd; rw [if_pos h]
theorem tcd_1 {B : Nat} (h : al B = 1) : tcd B = 2 := by unfold tcd; rw [if_neg (by omega), if_pos h]
theorem tcd_2 {B : Nat} (h0 : al B ≠ 0) (h1 : al B ≠ 1) : 3 ≤ tcd B := by
  unfold tcd; rw [if_neg h0, if_neg h1]
  split
  · omega
  · split <;> omega
theorem tcd_e1 {B : Nat} : tcd B = 1 ↔ al B = 0 := by
  refine ⟨fun h => ?_, tcd_0⟩
  by_cases h0 : al B = 0
  · exact h0
  · by_cases h1 : al B = 1
    · rw [tcd_1 h1] at h; omega
    · have := tcd_2 h0 h1; omega
theorem tcd_e2 {B : Nat} : tcd B = 2 ↔ al B = 1 := by
  refine ⟨fun h => ?_, tcd_1⟩
  by_cases h0 : al B = 0
  · rw [tcd_0 h0] at h; omega
  · by_cases h1 : al B = 1
    · exact h1
    · have := tcd_2 h0 h1; omega
theorem tcd_e3 {B : Nat} : tcd B = 3 ↔ B = 59 := by
  refine ⟨fun h => ?_, fun h => by subst h; decide⟩
  unfold tcd at h
  split at h
  · omega
  · split at h
    · omega
    · split at h
      · assumption
      · split at h <;> omega
theorem tcd_e4 {B : Nat} : tcd B = 4 ↔ B = 45 := by
  refine ⟨fun h => ?_, fun h => by subst h; decide⟩
  unfold tcd at h
  split at h
  · omega
  · split at h
    · omega
    · split at h
      · omega
      · split at h
        · assumption
        · omega
/-- the text, in both -/
def TX (b : Nat → Nat) (L : Nat) (σ τ : St) : Prop := L ≤ 400 ∧ (∀ k, k < L → 1 ≤ b k ∧ b k ≤ 255) ∧ gi σ 81 = nI L ∧ gi τ 8 = nI L ∧ (∀ k, k < L → gr σ 11 k = cB (b k)) ∧ (∀ k, k < L → gr τ 8 k = nI (b k))
/-- only the token's places change -/
def tC (σ σ' : St) : Prop := (∀ k, k ≠ 82 → k ≠ 83 → gi σ' k = gi σ k) ∧ (∀ k, gp σ' k = gp σ k) ∧ ∀ j, gr σ' j = gr σ j
def tM (τ τ' : St) : Prop := (∀ k, k ≠ 13 → k ≠ 14 → k ≠ 15 → k ≠ 16 → gi τ' k = gi τ k) ∧ ∀ j, gr τ' j = gr τ j
theorem tC.refl (σ : St) : tC σ σ := ⟨fun _ _ _ => rfl, fun _ => rfl, fun _ => rfl⟩
theorem tM.refl (τ : St) : tM τ τ := ⟨fun _ _ _ _ _ => rfl, fun _ => rfl⟩
theorem tC.trans {σ σ' σ2 : St} (h : tC σ σ') (h2 : tC σ' σ2) : tC σ σ2 := ⟨fun k a b => (h2.1 k a b).trans (h.1 k a b), fun k => (h2.2.1 k).trans (h.2.1 k), fun j => (h2.2.2 j).trans (h.2.2 j)⟩
theorem tM.trans {τ τ' τ2 : St} (h : tM τ τ') (h2 : tM τ' τ2) : tM τ τ2 := ⟨fun k a b c d => (h2.1 k a b c d).trans (h.1 k a b c d), fun j => (h2.2 j).trans (h.2 j)⟩
theorem TX.tr {b : Nat → Nat} {L : Nat} {σ τ σ' τ' : St} (h : TX b L σ τ) (c : tC σ σ') (m : tM τ τ') : TX b L σ' τ' :=
  ⟨h.1, h.2.1, (c.1 81 (by decide) (by decide)).trans h.2.2.1, (m.1 8 (by decide) (by decide) (by decide) (by decide)).trans h.2.2.2.1, fun k hk => by rw [c.2.2]; exact h.2.2.2.2.1 k hk, fun k hk => by rw [m.2]; exact h.2.2.2.2.2 k hk⟩
section TK
variable {b : Nat → Nat} {L : Nat} {σ τ : St}
theorem TX.l (h : TX b L σ τ) : L ≤ 400 := h.1
theorem TX.by9 (h : TX b L σ τ) {k : Nat} (hk : k < L) : 1 ≤ b k ∧ b k ≤ 255 := h.2.1 k hk
theorem TX.cL (h : TX b L σ τ) : gi σ 81 = nI L := h.2.2.1
theorem TX.mL (h : TX b L σ τ) : gi τ 8 = nI L := h.2.2.2.1
theorem TX.cb (h : TX b L σ τ) {k : Nat} (hk : k < L) : gr σ 11 k = cB (b k) := h.2.2.2.2.1 k hk
theorem TX.mb (h : TX b L σ τ) {k : Nat} (hk : k < L) : gr τ 8 k = nI (b k) := h.2.2.2.2.2 k hk
theorem skip_L : ∀ (d : Nat) {fu gu i : Nat} {σ τ : St}, TX b L σ τ → gi σ 82 = nI i → gi τ 13 = nI i → L - i = d → i ≤ L → d < fu → d < gu →
    ∃ s, i ≤ s ∧ s ≤ L ∧ f_X9_toNextToken_L8 fu σ = some (si σ 82 (nI s)) ∧ f_X11_next_L0 gu τ = some (si τ 13 (nI s)) := by
  intro d
  induction d with
  | zero =>
    intro fu gu i σ τ h hc hm hd hi hf hg
    obtain ⟨fu, rfl⟩ : ∃ f, fu = f + 1 := ⟨fu - 1, by omega⟩
    obtain ⟨gu, rfl⟩ : ∃ f, gu = f + 1 := ⟨gu - 1, by omega⟩
    have hl := h.l
    refine ⟨i, by omega, by omega, ?_, ?_⟩
    · unfold f_X9_toNextToken_L8; simp (disch := omega) only [↓bnd_s, ↓bnd2_s, ↓bnd3_s, ↓bnd4_s, ↓bnd5_s, ↓bndR_l, ↓bndR_r, ↓bndX_l, ↓bndX_r, bnd_s, bnd2_s, bnd3_s, bnd4_s, bnd5_s, bndR_l, bndR_r, bndX_l, bndX_r, nq_lt, nq_le, nq_inj, nq_add, nq_mul, nq_sub, nq_div, nq_neg1, nq_clamp, nq_ne1, nq_le1, ne1_lt, n1_lt0, n1_lt, n1_ne, nz0, nz1, nz2, nz3, nz4, nz5, nz6, nz8, nz10, nz31, nz32, nz50, nz400, nz800, nz3200, nz20000, nlt_f, nlt_t, nle_f, nle_t, neq_f, neq_t, gi_si_e, gi_si_n, gp_sp_e, gp_sp_n, gr_sr_e, gr_sr_n, gi_sp, gi_sr, gp_si, gp_sr, gr_si, gr_sp, upd_e, upd_n, un_e, un_n, an_sn_e, an_sn_n, an_sm, an_sv, am_sn, am_sm_e, am_sm_n, am_sv, ai_sn, ai_sm, ai_sv_e, ai_sv_n, reduceIte, or_false, false_or, or_true, true_or, or_self, and_true, true_and, and_false, false_and, not_true_eq_false, not_false_eq_true, h.cL, hc]; rw [si_id hc]
    · unfold f_X11_next_L0; simp (disch := omega) only [↓bnd_s, ↓bnd2_s, ↓bnd3_s, ↓bnd4_s, ↓bnd5_s, ↓bndR_l, ↓bndR_r, ↓bndX_l, ↓bndX_r, bnd_s, bnd2_s, bnd3_s, bnd4_s, bnd5_s, bndR_l, bndR_r, bndX_l, bndX_r, nq_lt, nq_le, nq_inj, nq_add, nq_mul, nq_sub, nq_div, nq_neg1, nq_clamp, nq_ne1, nq_le1, ne1_lt, n1_lt0, n1_lt, n1_ne, nz0, nz1, nz2, nz3, nz4, nz5, nz6, nz8, nz10, nz31, nz32, nz50, nz400, nz800, nz3200, nz20000, nlt_f, nlt_t, nle_f, nle_t, neq_f, neq_t, gi_si_e, gi_si_n, gp_sp_e, gp_sp_n, gr_sr_e, gr_sr_n, gi_sp, gi_sr, gp_si, gp_sr, gr_si, gr_sp, upd_e, upd_n, un_e, un_n, an_sn_e, an_sn_n, an_sm, an_sv, am_sn, am_sm_e, am_sm_n, am_sv, ai_sn, ai_sm, ai_sv_e, ai_sv_n, reduceIte, or_false, false_or, or_true, true_or, or_self, and_true, true_and, and_false, false_and, not_true_eq_false, not_false_eq_true, h.mL, hm]; rw [si_id hm]
  | succ d ih =>
    intro fu gu i σ τ h hc hm hd hi hf hg
    obtain ⟨fu, rfl⟩ : ∃ f, fu = f + 1 := ⟨fu - 1, by omega⟩
    obtain ⟨gu, rfl⟩ : ∃ f, gu = f + 1 := ⟨gu - 1, by omega⟩
    have hl := h.l
    have hi2 : i < L := by omega
    have hb := h.by9 hi2
    have ha := by_all (b i) (by omega)
    by_cases e : b i = 32
    · have h' : TX b L (si σ 82 (nI (i + 1))) (si τ 13 (nI (i + 1))) := h
      obtain ⟨s, s1, s2, s3, s4⟩ := ih (fu := fu) (gu := gu) (i := i + 1) h' (by simp (disch := omega) only [gi_si_e, gi_si_n, gp_sp_e, gp_sp_n, gr_sr_e, gr_sr_n, gi_sp, gi_sr, gp_si, gp_sr, gr_si, gr_sp, upd_e, upd_n, un_e, un_n, an_sn_e, an_sn_n, an_sm, an_sv, am_sn, am_sm_e, am_sm_n, am_sv, ai_sn, ai_sm, ai_sv_e, ai_sv_n, reduceIte, or_false, false_or, or_true, true_or, or_self, and_true, true_and, and_false, false_and, not_true_eq_false, not_false_eq_true]) (by simp (disch := omega) only [gi_si_e, gi_si_n, gp_sp_e, gp_sp_n, gr_sr_e, gr_sr_n, gi_sp, gi_sr, gp_si, gp_sr, gr_si, gr_sp, upd_e, upd_n, un_e, un_n, an_sn_e, an_sn_n, an_sm, an_sv, am_sn, am_sm_e, am_sm_n, am_sv, ai_sn, ai_sm, ai_sv_e, ai_sv_n, reduceIte, or_false, false_or, or_true, true_or, or_self, and_true, true_and, and_false, false_and, not_true_eq_false, not_false_eq_true]) (by omega) (by omega) (by omega) (by omega)
      rw [si_si] at s3 s4
      refine ⟨s, by omega, s2, ?_, ?_⟩
      · unfold f_X9_toNextToken_L8; simp (disch := omega) only [↓bnd_s, ↓bnd2_s, ↓bnd3_s, ↓bnd4_s, ↓bnd5_s, ↓bndR_l, ↓bndR_r, ↓bndX_l, ↓bndX_r, bnd_s, bnd2_s, bnd3_s, bnd4_s, bnd5_s, bndR_l, bndR_r, bndX_l, bndX_r, nq_lt, nq_le, nq_inj, nq_add, nq_mul, nq_sub, nq_div, nq_neg1, nq_clamp, nq_ne1, nq_le1, ne1_lt, n1_lt0, n1_lt, n1_ne, nz0, nz1, nz2, nz3, nz4, nz5, nz6, nz8, nz10, nz31, nz32, nz50, nz400, nz800, nz3200, nz20000, nlt_f, nlt_t, nle_f, nle_t, neq_f, neq_t, gi_si_e, gi_si_n, gp_sp_e, gp_sp_n, gr_sr_e, gr_sr_n, gi_sp, gi_sr, gp_si, gp_sr, gr_si, gr_sp, upd_e, upd_n, un_e, un_n, an_sn_e, an_sn_n, an_sm, an_sv, am_sn, am_sm_e, am_sm_n, am_sv, ai_sn, ai_sm, ai_sv_e, ai_sv_n, reduceIte, or_false, false_or, or_true, true_or, or_self, and_true, true_and, and_false, false_and, not_true_eq_false, not_false_eq_true, h.cL, hc, h.cb hi2, cB_eq]; exact s3
      · unfold f_X11_next_L0; simp (disch := omega) only [↓bnd_s, ↓bnd2_s, ↓bnd3_s, ↓bnd4_s, ↓bnd5_s, ↓bndR_l, ↓bndR_r, ↓bndX_l, ↓bndX_r, bnd_s, bnd2_s, bnd3_s, bnd4_s, bnd5_s, bndR_l, bndR_r, bndX_l, bndX_r, nq_lt, nq_le, nq_inj, nq_add, nq_mul, nq_sub, nq_div, nq_neg1, nq_clamp, nq_ne1, nq_le1, ne1_lt, n1_lt0, n1_lt, n1_ne, nz0, nz1, nz2, nz3, nz4, nz5, nz6, nz8, nz10, nz31, nz32, nz50, nz400, nz800, nz3200, nz20000, nlt_f, nlt_t, nle_f, nle_t, neq_f, neq_t, gi_si_e, gi_si_n, gp_sp_e, gp_sp_n, gr_sr_e, gr_sr_n, gi_sp, gi_sr, gp_si, gp_sr, gr_si, gr_sp, upd_e, upd_n, un_e, un_n, an_sn_e, an_sn_n, an_sm, an_sv, am_sn, am_sm_e, am_sm_n, am_sv, ai_sn, ai_sm, ai_sv_e, ai_sv_n, reduceIte, or_false, false_or, or_true, true_or, or_self, and_true, true_and, and_false, false_and, not_true_eq_false, not_false_eq_true, h.mL, hm, h.mb hi2]; exact s4
    · refine ⟨i, by omega, by omega, ?_, ?_⟩
      · unfold f_X9_toNextToken_L8; simp (disch := omega) only [↓bnd_s, ↓bnd2_s, ↓bnd3_s, ↓bnd4_s, ↓bnd5_s, ↓bndR_l, ↓bndR_r, ↓bndX_l, ↓bndX_r, bnd_s, bnd2_s, bnd3_s, bnd4_s, bnd5_s, bndR_l, bndR_r, bndX_l, bndX_r, nq_lt, nq_le, nq_inj, nq_add, nq_mul, nq_sub, nq_div, nq_neg1, nq_clamp, nq_ne1, nq_le1, ne1_lt, n1_lt0, n1_lt, n1_ne, nz0, nz1, nz2, nz3, nz4, nz5, nz6, nz8, nz10, nz31, nz32, nz50, nz400, nz800, nz3200, nz20000, nlt_f, nlt_t, nle_f, nle_t, neq_f, neq_t, gi_si_e, gi_si_n, gp_sp_e, gp_sp_n, gr_sr_e, gr_sr_n, gi_sp, gi_sr, gp_si, gp_sr, gr_si, gr_sp, upd_e, upd_n, un_e, un_n, an_sn_e, an_sn_n, an_sm, an_sv, am_sn, am_sm_e, am_sm_n, am_sv, ai_sn, ai_sm, ai_sv_e, ai_sv_n, reduceIte, or_false, false_or, or_true, true_or, or_self, and_true, true_and, and_false, false_and, not_true_eq_false, not_false_eq_true, h.cL, hc, h.cb hi2, cB_eq]; rw [si_id hc]
      · unfold f_X11_next_L0; simp (disch := omega) only [↓bnd_s, ↓bnd2_s, ↓bnd3_s, ↓bnd4_s, ↓bnd5_s, ↓bndR_l, ↓bndR_r, ↓bndX_l, ↓bndX_r, bnd_s, bnd2_s, bnd3_s, bnd4_s, bnd5_s, bndR_l, bndR_r, bndX_l, bndX_r, nq_lt, nq_le, nq_inj, nq_add, nq_mul, nq_sub, nq_div, nq_neg1, nq_clamp, nq_ne1, nq_le1, ne1_lt, n1_lt0, n1_lt, n1_ne, nz0, nz1, nz2, nz3, nz4, nz5, nz6, nz8, nz10, nz31, nz32, nz50, nz400, nz800, nz3200, nz20000, nlt_f, nlt_t, nle_f, nle_t, neq_f, neq_t, gi_si_e, gi_si_n, gp_sp_e, gp_sp_n, gr_sr_e, gr_sr_n, gi_sp, gi_sr, gp_si, gp_sr, gr_si, gr_sp, upd_e, upd_n, un_e, un_n, an_sn_e, an_sn_n, an_sm, an_sv, am_sn, am_sm_e, am_sm_n, am_sv, ai_sn, ai_sm, ai_sv_e, ai_sv_n, reduceIte, or_false, false_or, or_true, true_or, or_self, and_true, true_and, and_false, false_and, not_true_eq_false, not_false_eq_true, h.mL, hm, h.mb hi2]; rw [si_id hm]
def f16 (τ τ' : St) : Prop := (∀ k, k ≠ 13 → k ≠ 16 → gi τ' k = gi τ k) ∧ ∀ j, gr τ' j = gr τ j
theorem f16.refl (τ : St) : f16 τ τ := ⟨fun _ _ _ => rfl, fun _ => rfl⟩
theorem f16.trans {τ τ' τ2 : St} (h : f16 τ τ') (h2 : f16 τ' τ2) : f16 τ τ2 := ⟨fun k a b => (h2.1 k a b).trans (h.1 k a b), fun j => (h2.2 j).trans (h.2 j)⟩
theorem f16.st (τ : St) (x y : Int32) : f16 τ (si (si τ 16 x) 13 y) := ⟨fun k h1 h2 => by simp (disch := omega) only [gi_si_e, gi_si_n, gp_sp_e, gp_sp_n, gr_sr_e, gr_sr_n, gi_sp, gi_sr, gp_si, gp_sr, gr_si, gr_sp, upd_e, upd_n, un_e, un_n, an_sn_e, an_sn_n, an_sm, an_sv, am_sn, am_sm_e, am_sm_n, am_sv, ai_sn, ai_sm, ai_sv_e, ai_sv_n, reduceIte, or_false, false_or, or_true, true_or, or_self, and_true, true_and, and_false, false_and, not_true_eq_false, not_false_eq_true], fun j => by simp (disch := omega) only [gi_si_e, gi_si_n, gp_sp_e, gp_sp_n, gr_sr_e, gr_sr_n, gi_sp, gi_sr, gp_si, gp_sr, gr_si, gr_sp, upd_e, upd_n, un_e, un_n, an_sn_e, an_sn_n, an_sm, an_sv, am_sn, am_sm_e, am_sm_n, am_sv, ai_sn, ai_sm, ai_sv_e, ai_sv_n, reduceIte, or_false, false_or, or_true, true_or, or_self, and_true, true_and, and_false, false_and, not_true_eq_false, not_false_eq_true]⟩
theorem TX.f16 {σ τ σ' τ' : St} (h : TX b L σ τ) (c : tC σ σ') (m : f16 τ τ') : TX b L σ' τ' := h.tr c ⟨fun k a _ _ d => m.1 k a d, m.2⟩
theorem tC.s83 (σ : St) (x : Int32) : tC σ (si σ 83 x) := ⟨fun k h1 h2 => by simp (disch := omega) only [gi_si_e, gi_si_n, gp_sp_e, gp_sp_n, gr_sr_e, gr_sr_n, gi_sp, gi_sr, gp_si, gp_sr, gr_si, gr_sp, upd_e, upd_n, un_e, un_n, an_sn_e, an_sn_n, an_sm, an_sv, am_sn, am_sm_e, am_sm_n, am_sv, ai_sn, ai_sm, ai_sv_e, ai_sv_n, reduceIte, or_false, false_or, or_true, true_or, or_self, and_true, true_and, and_false, false_and, not_true_eq_false, not_false_eq_true], fun _ => rfl, fun _ => rfl⟩
theorem letters_L : ∀ (d : Nat) {fu gu e c : Nat} {σ τ : St}, TX b L σ τ → gi σ 83 = nI e → gi τ 13 = nI e → gi τ 14 = nI 1 → L - e = d → e ≤ L → c ≤ e → d < fu → d < gu →
    ∃ e' τ', e ≤ e' ∧ e' ≤ L ∧ (∀ k, e ≤ k → k < e' → al (b k) = 0) ∧ f_X9_toNextToken_L89 (nI 0) fu σ = some (si σ 83 (nI e')) ∧ f_X11_next_L128 gu (nI c) τ = some τ' ∧ gi τ' 13 = nI e' ∧ f16 τ τ' := by
  intro d
  induction d with
  | zero =>
    intro fu gu e c σ τ h hc hm ht hd hi hci hf hg
    obtain ⟨fu, rfl⟩ : ∃ f, fu = f + 1 := ⟨fu - 1, by omega⟩
    obtain ⟨gu, rfl⟩ : ∃ f, gu = f + 1 := ⟨gu - 1, by omega⟩
    have hl := h.l
    refine ⟨e, τ, by omega, by omega, fun k h1 h2 => by omega, ?_, ?_, hm, f16.refl τ⟩
    · unfold f_X9_toNextToken_L89; simp (disch := omega) only [↓bnd_s, ↓bnd2_s, ↓bnd3_s, ↓bnd4_s, ↓bnd5_s, ↓bndR_l, ↓bndR_r, ↓bndX_l, ↓bndX_r, bnd_s, bnd2_s, bnd3_s, bnd4_s, bnd5_s, bndR_l, bndR_r, bndX_l, bndX_r, nq_lt, nq_le, nq_inj, nq_add, nq_mul, nq_sub, nq_div, nq_neg1, nq_clamp, nq_ne1, nq_le1, ne1_lt, n1_lt0, n1_lt, n1_ne, nz0, nz1, nz2, nz3, nz4, nz5, nz6, nz8, nz10, nz31, nz32, nz50, nz400, nz800, nz3200, nz20000, nlt_f, nlt_t, nle_f, nle_t, neq_f, neq_t, gi_si_e, gi_si_n, gp_sp_e, gp_sp_n, gr_sr_e, gr_sr_n, gi_sp, gi_sr, gp_si, gp_sr, gr_si, gr_sp, upd_e, upd_n, un_e, un_n, an_sn_e, an_sn_n, an_sm, an_sv, am_sn, am_sm_e, am_sm_n, am_sv, ai_sn, ai_sm, ai_sv_e, ai_sv_n, reduceIte, or_false, false_or, or_true, true_or, or_self, and_true, true_and, and_false, false_and, not_true_eq_false, not_false_eq_true, h.cL, hc]; rw [si_id hc]
    · unfold f_X11_next_L128; simp (disch := omega) only [↓bnd_s, ↓bnd2_s, ↓bnd3_s, ↓bnd4_s, ↓bnd5_s, ↓bndR_l, ↓bndR_r, ↓bndX_l, ↓bndX_r, bnd_s, bnd2_s, bnd3_s, bnd4_s, bnd5_s, bndR_l, bndR_r, bndX_l, bndX_r, nq_lt, nq_le, nq_inj, nq_add, nq_mul, nq_sub, nq_div, nq_neg1, nq_clamp, nq_ne1, nq_le1, ne1_lt, n1_lt0, n1_lt, n1_ne, nz0, nz1, nz2, nz3, nz4, nz5, nz6, nz8, nz10, nz31, nz32, nz50, nz400, nz800, nz3200, nz20000, nlt_f, nlt_t, nle_f, nle_t, neq_f, neq_t, gi_si_e, gi_si_n, gp_sp_e, gp_sp_n, gr_sr_e, gr_sr_n, gi_sp, gi_sr, gp_si, gp_sr, gr_si, gr_sp, upd_e, upd_n, un_e, un_n, an_sn_e, an_sn_n, an_sm, an_sv, am_sn, am_sm_e, am_sm_n, am_sv, ai_sn, ai_sm, ai_sv_e, ai_sv_n, reduceIte, or_false, false_or, or_true, true_or, or_self, and_true, true_and, and_false, false_and, not_true_eq_false, not_false_eq_true, h.mL, hm]
  | succ d ih =>
    intro fu gu e c σ τ h hc hm ht hd hi hci hf hg
    obtain ⟨fu, rfl⟩ : ∃ f, fu = f + 1 := ⟨fu - 1, by omega⟩
    obtain ⟨gu, rfl⟩ : ∃ f, gu = f + 1 := ⟨gu - 1, by omega⟩
    have hl := h.l
    have hi2 : e < L := by omega
    have hb := h.by9 hi2
    obtain ⟨a1, a2, a3, -⟩ := by_all (b e) (by omega)
    by_cases ea : al (b e) = 0
    · have st := f16.st τ (if c + 1 ≤ 4 then nI 0 else nI 10000) (nI (e + 1))
      have h' := h.f16 (tC.s83 σ (nI (e + 1))) st
      obtain ⟨e', τ', s1, s2, s3, s4, s5, s6, s7⟩ := ih (fu := fu) (gu := gu) (e := e + 1) (c := c + 1) h' (by simp (disch := omega) only [gi_si_e, gi_si_n, gp_sp_e, gp_sp_n, gr_sr_e, gr_sr_n, gi_sp, gi_sr, gp_si, gp_sr, gr_si, gr_sp, upd_e, upd_n, un_e, un_n, an_sn_e, an_sn_n, an_sm, an_sv, am_sn, am_sm_e, am_sm_n, am_sv, ai_sn, ai_sm, ai_sv_e, ai_sv_n, reduceIte, or_false, false_or, or_true, true_or, or_self, and_true, true_and, and_false, false_and, not_true_eq_false, not_false_eq_true]) (by simp (disch := omega) only [gi_si_e, gi_si_n, gp_sp_e, gp_sp_n, gr_sr_e, gr_sr_n, gi_sp, gi_sr, gp_si, gp_sr, gr_si, gr_sp, upd_e, upd_n, un_e, un_n, an_sn_e, an_sn_n, an_sm, an_sv, am_sn, am_sm_e, am_sm_n, am_sv, ai_sn, ai_sm, ai_sv_e, ai_sv_n, reduceIte, or_false, false_or, or_true, true_or, or_self, and_true, true_and, and_false, false_and, not_true_eq_false, not_false_eq_true]) (by simp (disch := omega) only [gi_si_e, gi_si_n, gp_sp_e, gp_sp_n, gr_sr_e, gr_sr_n, gi_sp, gi_sr, gp_si, gp_sr, gr_si, gr_sp, upd_e, upd_n, un_e, un_n, an_sn_e, an_sn_n, an_sm, an_sv, am_sn, am_sm_e, am_sm_n, am_sv, ai_sn, ai_sm, ai_sv_e, ai_sv_n, reduceIte, or_false, false_or, or_true, true_or, or_self, and_true, true_and, and_false, false_and, not_true_eq_false, not_false_eq_true]; exact ht) (by omega) (by omega) (by omega) (by omega) (by omega)
      rw [si_si] at s4
      refine ⟨e', τ', by omega, s2, fun k h1 h2 => ?_, ?_, ?_, s6, st.trans s7⟩
      · by_cases ek : k = e
        · rw [ek]; exact ea
        · exact s3 k (by omega) h2
      · unfold f_X9_toNextToken_L89; simp (disch := omega) only [↓bnd_s, ↓bnd2_s, ↓bnd3_s, ↓bnd4_s, ↓bnd5_s, ↓bndR_l, ↓bndR_r, ↓bndX_l, ↓bndX_r, bnd_s, bnd2_s, bnd3_s, bnd4_s, bnd5_s, bndR_l, bndR_r, bndX_l, bndX_r, nq_lt, nq_le, nq_inj, nq_add, nq_mul, nq_sub, nq_div, nq_neg1, nq_clamp, nq_ne1, nq_le1, ne1_lt, n1_lt0, n1_lt, n1_ne, nz0, nz1, nz2, nz3, nz4, nz5, nz6, nz8, nz10, nz31, nz32, nz50, nz400, nz800, nz3200, nz20000, nlt_f, nlt_t, nle_f, nle_t, neq_f, neq_t, gi_si_e, gi_si_n, gp_sp_e, gp_sp_n, gr_sr_e, gr_sr_n, gi_sp, gi_sr, gp_si, gp_sr, gr_si, gr_sp, upd_e, upd_n, un_e, un_n, an_sn_e, an_sn_n, an_sm, an_sv, am_sn, am_sm_e, am_sm_n, am_sv, ai_sn, ai_sm, ai_sv_e, ai_sv_n, reduceIte, or_false, false_or, or_true, true_or, or_self, and_true, true_and, and_false, false_and, not_true_eq_false, not_false_eq_true, h.cL, hc, h.cb hi2, a1, ea]; exact s4
      · unfold f_X11_next_L128
        by_cases c4 : c + 1 ≤ 4
        · rw [if_pos c4] at s5
          simp (disch := omega) only [↓bnd_s, ↓bnd2_s, ↓bnd3_s, ↓bnd4_s, ↓bnd5_s, ↓bndR_l, ↓bndR_r, ↓bndX_l, ↓bndX_r, bnd_s, bnd2_s, bnd3_s, bnd4_s, bnd5_s, bndR_l, bndR_r, bndX_l, bndX_r, nq_lt, nq_le, nq_inj, nq_add, nq_mul, nq_sub, nq_div, nq_neg1, nq_clamp, nq_ne1, nq_le1, ne1_lt, n1_lt0, n1_lt, n1_ne, nz0, nz1, nz2, nz3, nz4, nz5, nz6, nz8, nz10, nz31, nz32, nz50, nz400, nz800, nz3200, nz20000, nlt_f, nlt_t, nle_f, nle_t, neq_f, neq_t, gi_si_e, gi_si_n, gp_sp_e, gp_sp_n, gr_sr_e, gr_sr_n, gi_sp, gi_sr, gp_si, gp_sr, gr_si, gr_sp, upd_e, upd_n, un_e, un_n, an_sn_e, an_sn_n, an_sm, an_sv, am_sn, am_sm_e, am_sm_n, am_sv, ai_sn, ai_sm, ai_sv_e, ai_sv_n, reduceIte, or_false, false_or, or_true, true_or, or_self, and_true, true_and, and_false, false_and, not_true_eq_false, not_false_eq_true, h.mL, hm, h.mb hi2, ht, a2, ea, c4]; exact s5
        · rw [if_neg c4] at s5
          simp (disch := omega) only [↓bnd_s, ↓bnd2_s, ↓bnd3_s, ↓bnd4_s, ↓bnd5_s, ↓bndR_l, ↓bndR_r, ↓bndX_l, ↓bndX_r, bnd_s, bnd2_s, bnd3_s, bnd4_s, bnd5_s, bndR_l, bndR_r, bndX_l, bndX_r, nq_lt, nq_le, nq_inj, nq_add, nq_mul, nq_sub, nq_div, nq_neg1, nq_clamp, nq_ne1, nq_le1, ne1_lt, n1_lt0, n1_lt, n1_ne, nz0, nz1, nz2, nz3, nz4, nz5, nz6, nz8, nz10, nz31, nz32, nz50, nz400, nz800, nz3200, nz20000, nlt_f, nlt_t, nle_f, nle_t, neq_f, neq_t, gi_si_e, gi_si_n, gp_sp_e, gp_sp_n, gr_sr_e, gr_sr_n, gi_sp, gi_sr, gp_si, gp_sr, gr_si, gr_sp, upd_e, upd_n, un_e, un_n, an_sn_e, an_sn_n, an_sm, an_sv, am_sn, am_sm_e, am_sm_n, am_sv, ai_sn, ai_sm, ai_sv_e, ai_sv_n, reduceIte, or_false, false_or, or_true, true_or, or_self, and_true, true_and, and_false, false_and, not_true_eq_false, not_false_eq_true, h.mL, hm, h.mb hi2, ht, a2, ea, c4]; exact s5
    · refine ⟨e, τ, by omega, by omega, fun k h1 h2 => by omega, ?_, ?_, hm, f16.refl τ⟩
      · unfold f_X9_toNextToken_L89
        by_cases ea1 : al (b e) = 1
        · simp (disch := omega) only [↓bnd_s, ↓bnd2_s, ↓bnd3_s, ↓bnd4_s, ↓bnd5_s, ↓bndR_l, ↓bndR_r, ↓bndX_l, ↓bndX_r, bnd_s, bnd2_s, bnd3_s, bnd4_s, bnd5_s, bndR_l, bndR_r, bndX_l, bndX_r, nq_lt, nq_le, nq_inj, nq_add, nq_mul, nq_sub, nq_div, nq_neg1, nq_clamp, nq_ne1, nq_le1, ne1_lt, n1_lt0, n1_lt, n1_ne, nz0, nz1, nz2, nz3, nz4, nz5, nz6, nz8, nz10, nz31, nz32, nz50, nz400, nz800, nz3200, nz20000, nlt_f, nlt_t, nle_f, nle_t, neq_f, neq_t, gi_si_e, gi_si_n, gp_sp_e, gp_sp_n, gr_sr_e, gr_sr_n, gi_sp, gi_sr, gp_si, gp_sr, gr_si, gr_sp, upd_e, upd_n, un_e, un_n, an_sn_e, an_sn_n, an_sm, an_sv, am_sn, am_sm_e, am_sm_n, am_sv, ai_sn, ai_sm, ai_sv_e, ai_sv_n, reduceIte, or_false, false_or, or_true, true_or, or_self, and_true, true_and, and_false, false_and, not_true_eq_false, not_false_eq_true, h.cL, hc, h.cb hi2, a1, ea, ea1]; rw [si_id hc]
        · simp (disch := omega) only [↓bnd_s, ↓bnd2_s, ↓bnd3_s, ↓bnd4_s, ↓bnd5_s, ↓bndR_l, ↓bndR_r, ↓bndX_l, ↓bndX_r, bnd_s, bnd2_s, bnd3_s, bnd4_s, bnd5_s, bndR_l, bndR_r, bndX_l, bndX_r, nq_lt, nq_le, nq_inj, nq_add, nq_mul, nq_sub, nq_div, nq_neg1, nq_clamp, nq_ne1, nq_le1, ne1_lt, n1_lt0, n1_lt, n1_ne, nz0, nz1, nz2, nz3, nz4, nz5, nz6, nz8, nz10, nz31, nz32, nz50, nz400, nz800, nz3200, nz20000, nlt_f, nlt_t, nle_f, nle_t, neq_f, neq_t, gi_si_e, gi_si_n, gp_sp_e, gp_sp_n, gr_sr_e, gr_sr_n, gi_sp, gi_sr, gp_si, gp_sr, gr_si, gr_sp, upd_e, upd_n, un_e, un_n, an_sn_e, an_sn_n, an_sm, an_sv, am_sn, am_sm_e, am_sm_n, am_sv, ai_sn, ai_sm, ai_sv_e, ai_sv_n, reduceIte, or_false, false_or, or_true, true_or, or_self, and_true, true_and, and_false, false_and, not_true_eq_false, not_false_eq_true, h.cL, hc, h.cb hi2, a1, ea, ea1]; rw [si_id hc]
      · unfold f_X11_next_L128; simp (disch := omega) only [↓bnd_s, ↓bnd2_s, ↓bnd3_s, ↓bnd4_s, ↓bnd5_s, ↓bndR_l, ↓bndR_r, ↓bndX_l, ↓bndX_r, bnd_s, bnd2_s, bnd3_s, bnd4_s, bnd5_s, bndR_l, bndR_r, bndX_l, bndX_r, nq_lt, nq_le, nq_inj, nq_add, nq_mul, nq_sub, nq_div, nq_neg1, nq_clamp, nq_ne1, nq_le1, ne1_lt, n1_lt0, n1_lt, n1_ne, nz0, nz1, nz2, nz3, nz4, nz5, nz6, nz8, nz10, nz31, nz32, nz50, nz400, nz800, nz3200, nz20000, nlt_f, nlt_t, nle_f, nle_t, neq_f, neq_t, gi_si_e, gi_si_n, gp_sp_e, gp_sp_n, gr_sr_e, gr_sr_n, gi_sp, gi_sr, gp_si, gp_sr, gr_si, gr_sp, upd_e, upd_n, un_e, un_n, an_sn_e, an_sn_n, an_sm, an_sv, am_sn, am_sm_e, am_sm_n, am_sv, ai_sn, ai_sm, ai_sv_e, ai_sv_n, reduceIte, or_false, false_or, or_true, true_or, or_self, and_true, true_and, and_false, false_and, not_true_eq_false, not_false_eq_true, h.mL, hm, h.mb hi2, ht, a2, ea]
/-- the number of the first k digits from s on -/
def nvc (b : Nat → Nat) (s : Nat) : Nat → Nat
  | 0 => 0
  | k + 1 => 10 * nvc b s k + (b (s + k) - 48)
def nu (b : Nat → Nat) (s c : Nat) : Nat := if c ≤ 4 then nvc b s c else 10000
theorem nvc_lt {b : Nat → Nat} {s : Nat} : ∀ {k : Nat}, (∀ i, i < k → al (b (s + i)) = 1 ∧ b (s + i) < 256) → nvc b s k < 10 ^ k
  | 0, _ => Nat.one_pos
  | k + 1, h => by
    have h1 := nvc_lt (k := k) fun i hi => h i (by omega)
    obtain ⟨h2, h3⟩ := h k (by omega)
    have h4 := ((by_all _ h3).2.2.2.2.2.2.2.1 h2).2
    unfold nvc
    rw [Nat.pow_succ]
    omega
theorem digits_L {s : Nat} : ∀ (d : Nat) {fu gu e c : Nat} {σ τ : St}, TX b L σ τ → gi σ 83 = nI e → gi τ 13 = nI e → gi τ 14 = nI 2 → L - e = d → e ≤ L → e = s + c → (∀ k, s ≤ k → k < e → al (b k) = 1) → gi τ 16 = nI (nu b s c) → d < fu → d < gu →
    ∃ e' τ', e ≤ e' ∧ e' ≤ L ∧ (∀ k, s ≤ k → k < e' → al (b k) = 1) ∧ (e' < L → al (b e') ≠ 1) ∧ f_X9_toNextToken_L89 (nI 1) fu σ = some (si σ 83 (nI e')) ∧ f_X11_next_L128 gu (nI c) τ = some τ' ∧ gi τ' 13 = nI e' ∧ gi τ' 16 = nI (nu b s (e' - s)) ∧ f16 τ τ' := by
  intro d
  induction d with
  | zero =>
    intro fu gu e c σ τ h hc hm ht hd hi hci hal hnu hf hg
    obtain ⟨fu, rfl⟩ : ∃ f, fu = f + 1 := ⟨fu - 1, by omega⟩
    obtain ⟨gu, rfl⟩ : ∃ f, gu = f + 1 := ⟨gu - 1, by omega⟩
    have hl := h.l
    refine ⟨e, τ, by omega, by omega, hal, fun h1 => by omega, ?_, ?_, hm, by rw [show e - s = c by omega]; exact hnu, f16.refl τ⟩
    · unfold f_X9_toNextToken_L89; simp (disch := omega) only [↓bnd_s, ↓bnd2_s, ↓bnd3_s, ↓bnd4_s, ↓bnd5_s, ↓bndR_l, ↓bndR_r, ↓bndX_l, ↓bndX_r, bnd_s, bnd2_s, bnd3_s, bnd4_s, bnd5_s, bndR_l, bndR_r, bndX_l, bndX_r, nq_lt, nq_le, nq_inj, nq_add, nq_mul, nq_sub, nq_div, nq_neg1, nq_clamp, nq_ne1, nq_le1, ne1_lt, n1_lt0, n1_lt, n1_ne, nz0, nz1, nz2, nz3, nz4, nz5, nz6, nz8, nz10, nz31, nz32, nz50, nz400, nz800, nz3200, nz20000, nlt_f, nlt_t, nle_f, nle_t, neq_f, neq_t, gi_si_e, gi_si_n, gp_sp_e, gp_sp_n, gr_sr_e, gr_sr_n, gi_sp, gi_sr, gp_si, gp_sr, gr_si, gr_sp, upd_e, upd_n, un_e, un_n, an_sn_e, an_sn_n, an_sm, an_sv, am_sn, am_sm_e, am_sm_n, am_sv, ai_sn, ai_sm, ai_sv_e, ai_sv_n, reduceIte, or_false, false_or, or_true, true_or, or_self, and_true, true_and, and_false, false_and, not_true_eq_false, not_false_eq_true, h.cL, hc]; rw [si_id hc]
    · unfold f_X11_next_L128; simp (disch := omega) only [↓bnd_s, ↓bnd2_s, ↓bnd3_s, ↓bnd4_s, ↓bnd5_s, ↓bndR_l, ↓bndR_r, ↓bndX_l, ↓bndX_r, bnd_s, bnd2_s, bnd3_s, bnd4_s, bnd5_s, bndR_l, bndR_r, bndX_l, bndX_r, nq_lt, nq_le, nq_inj, nq_add, nq_mul, nq_sub, nq_div, nq_neg1, nq_clamp, nq_ne1, nq_le1, ne1_lt, n1_lt0, n1_lt, n1_ne, nz0, nz1, nz2, nz3, nz4, nz5, nz6, nz8, nz10, nz31, nz32, nz50, nz400, nz800, nz3200, nz20000, nlt_f, nlt_t, nle_f, nle_t, neq_f, neq_t, gi_si_e, gi_si_n, gp_sp_e, gp_sp_n, gr_sr_e, gr_sr_n, gi_sp, gi_sr, gp_si, gp_sr, gr_si, gr_sp, upd_e, upd_n, un_e, un_n, an_sn_e, an_sn_n, an_sm, an_sv, am_sn, am_sm_e, am_sm_n, am_sv, ai_sn, ai_sm, ai_sv_e, ai_sv_n, reduceIte, or_false, false_or, or_true, true_or, or_self, and_true, true_and, and_false, false_and, not_true_eq_false, not_false_eq_true, h.mL, hm]
  | succ d ih =>
    intro fu gu e c σ τ h hc hm ht hd hi hci hal hnu hf hg
    obtain ⟨fu, rfl⟩ : ∃ f, fu = f + 1 := ⟨fu - 1, by omega⟩
    obtain ⟨gu, rfl⟩ : ∃ f, gu = f + 1 := ⟨gu - 1, by omega⟩
    have hl := h.l
    have hi2 : e < L := by omega
    have hb := h.by9 hi2
    obtain ⟨a1, a2, a3, -, -, -, -, a8, -⟩ := by_all (b e) (by omega)
    by_cases ea : al (b e) = 1
    · have a9 := (a8 ea).2
      have hn2 : nu b s (c + 1) = if c + 1 ≤ 4 then 10 * nu b s c + b e - 48 else 10000 := by
        unfold nu
        by_cases c4 : c + 1 ≤ 4
        · rw [if_pos c4, if_pos c4, if_pos (by omega), hci]
          show 10 * nvc b s c + (b (s + c) - 48) = _
          rw [hci] at a9
          omega
        · rw [if_neg c4, if_neg c4]
      have st := f16.st τ (nI (nu b s (c + 1))) (nI (e + 1))
      have h' := h.f16 (tC.s83 σ (nI (e + 1))) st
      obtain ⟨e', τ', s1, s2, s3, sm, s4, s5, s6, sn, s7⟩ := ih (fu := fu) (gu := gu) (e := e + 1) (c := c + 1) h' (by simp (disch := omega) only [gi_si_e, gi_si_n, gp_sp_e, gp_sp_n, gr_sr_e, gr_sr_n, gi_sp, gi_sr, gp_si, gp_sr, gr_si, gr_sp, upd_e, upd_n, un_e, un_n, an_sn_e, an_sn_n, an_sm, an_sv, am_sn, am_sm_e, am_sm_n, am_sv, ai_sn, ai_sm, ai_sv_e, ai_sv_n, reduceIte, or_false, false_or, or_true, true_or, or_self, and_true, true_and, and_false, false_and, not_true_eq_false, not_false_eq_true]) (by simp (disch := omega) only [gi_si_e, gi_si_n, gp_sp_e, gp_sp_n, gr_sr_e, gr_sr_n, gi_sp, gi_sr, gp_si, gp_sr, gr_si, gr_sp, upd_e, upd_n, un_e, un_n, an_sn_e, an_sn_n, an_sm, an_sv, am_sn, am_sm_e, am_sm_n, am_sv, ai_sn, ai_sm, ai_sv_e, ai_sv_n, reduceIte, or_false, false_or, or_true, true_or, or_self, and_true, true_and, and_false, false_and, not_true_eq_false, not_false_eq_true]) (by simp (disch := omega) only [gi_si_e, gi_si_n, gp_sp_e, gp_sp_n, gr_sr_e, gr_sr_n, gi_sp, gi_sr, gp_si, gp_sr, gr_si, gr_sp, upd_e, upd_n, un_e, un_n, an_sn_e, an_sn_n, an_sm, an_sv, am_sn, am_sm_e, am_sm_n, am_sv, ai_sn, ai_sm, ai_sv_e, ai_sv_n, reduceIte, or_false, false_or, or_true, true_or, or_self, and_true, true_and, and_false, false_and, not_true_eq_false, not_false_eq_true]; exact ht) (by omega) (by omega) (by omega) (fun k h1 h2 => by
          by_cases ek : k = e
          · rw [ek]; exact ea
          · exact hal k h1 (by omega)) (by simp (disch := omega) only [gi_si_e, gi_si_n, gp_sp_e, gp_sp_n, gr_sr_e, gr_sr_n, gi_sp, gi_sr, gp_si, gp_sr, gr_si, gr_sp, upd_e, upd_n, un_e, un_n, an_sn_e, an_sn_n, an_sm, an_sv, am_sn, am_sm_e, am_sm_n, am_sv, ai_sn, ai_sm, ai_sv_e, ai_sv_n, reduceIte, or_false, false_or, or_true, true_or, or_self, and_true, true_and, and_false, false_and, not_true_eq_false, not_false_eq_true]) (by omega) (by omega)
      rw [si_si] at s4
      refine ⟨e', τ', by omega, s2, s3, sm, ?_, ?_, s6, sn, st.trans s7⟩
      · unfold f_X9_toNextToken_L89; simp (disch := omega) only [↓bnd_s, ↓bnd2_s, ↓bnd3_s, ↓bnd4_s, ↓bnd5_s, ↓bndR_l, ↓bndR_r, ↓bndX_l, ↓bndX_r, bnd_s, bnd2_s, bnd3_s, bnd4_s, bnd5_s, bndR_l, bndR_r, bndX_l, bndX_r, nq_lt, nq_le, nq_inj, nq_add, nq_mul, nq_sub, nq_div, nq_neg1, nq_clamp, nq_ne1, nq_le1, ne1_lt, n1_lt0, n1_lt, n1_ne, nz0, nz1, nz2, nz3, nz4, nz5, nz6, nz8, nz10, nz31, nz32, nz50, nz400, nz800, nz3200, nz20000, nlt_f, nlt_t, nle_f, nle_t, neq_f, neq_t, gi_si_e, gi_si_n, gp_sp_e, gp_sp_n, gr_sr_e, gr_sr_n, gi_sp, gi_sr, gp_si, gp_sr, gr_si, gr_sp, upd_e, upd_n, un_e, un_n, an_sn_e, an_sn_n, an_sm, an_sv, am_sn, am_sm_e, am_sm_n, am_sv, ai_sn, ai_sm, ai_sv_e, ai_sv_n, reduceIte, or_false, false_or, or_true, true_or, or_self, and_true, true_and, and_false, false_and, not_true_eq_false, not_false_eq_true, h.cL, hc, h.cb hi2, a1, ea]; exact s4
      · unfold f_X11_next_L128
        by_cases c4 : c + 1 ≤ 4
        · rw [hn2, if_pos c4] at s5
          rw [show (48 : Int32) = nI 48 from rfl]
          simp (disch := omega) only [↓bnd_s, ↓bnd2_s, ↓bnd3_s, ↓bnd4_s, ↓bnd5_s, ↓bndR_l, ↓bndR_r, ↓bndX_l, ↓bndX_r, bnd_s, bnd2_s, bnd3_s, bnd4_s, bnd5_s, bndR_l, bndR_r, bndX_l, bndX_r, nq_lt, nq_le, nq_inj, nq_add, nq_mul, nq_sub, nq_div, nq_neg1, nq_clamp, nq_ne1, nq_le1, ne1_lt, n1_lt0, n1_lt, n1_ne, nz0, nz1, nz2, nz3, nz4, nz5, nz6, nz8, nz10, nz31, nz32, nz50, nz400, nz800, nz3200, nz20000, nlt_f, nlt_t, nle_f, nle_t, neq_f, neq_t, gi_si_e, gi_si_n, gp_sp_e, gp_sp_n, gr_sr_e, gr_sr_n, gi_sp, gi_sr, gp_si, gp_sr, gr_si, gr_sp, upd_e, upd_n, un_e, un_n, an_sn_e, an_sn_n, an_sm, an_sv, am_sn, am_sm_e, am_sm_n, am_sv, ai_sn, ai_sm, ai_sv_e, ai_sv_n, reduceIte, or_false, false_or, or_true, true_or, or_self, and_true, true_and, and_false, false_and, not_true_eq_false, not_false_eq_true, h.mL, hm, h.mb hi2, ht, a3, ea, c4, hnu]; exact s5
        · rw [hn2, if_neg c4] at s5
          simp (disch := omega) only [↓bnd_s, ↓bnd2_s, ↓bnd3_s, ↓bnd4_s, ↓bnd5_s, ↓bndR_l, ↓bndR_r, ↓bndX_l, ↓bndX_r, bnd_s, bnd2_s, bnd3_s, bnd4_s, bnd5_s, bndR_l, bndR_r, bndX_l, bndX_r, nq_lt, nq_le, nq_inj, nq_add, nq_mul, nq_sub, nq_div, nq_neg1, nq_clamp, nq_ne1, nq_le1, ne1_lt, n1_lt0, n1_lt, n1_ne, nz0, nz1, nz2, nz3, nz4, nz5, nz6, nz8, nz10, nz31, nz32, nz50, nz400, nz800, nz3200, nz20000, nlt_f, nlt_t, nle_f, nle_t, neq_f, neq_t, gi_si_e, gi_si_n, gp_sp_e, gp_sp_n, gr_sr_e, gr_sr_n, gi_sp, gi_sr, gp_si, gp_sr, gr_si, gr_sp, upd_e, upd_n, un_e, un_n, an_sn_e, an_sn_n, an_sm, an_sv, am_sn, am_sm_e, am_sm_n, am_sv, ai_sn, ai_sm, ai_sv_e, ai_sv_n, reduceIte, or_false, false_or, or_true, true_or, or_self, and_true, true_and, and_false, false_and, not_true_eq_false, not_false_eq_true, h.mL, hm, h.mb hi2, ht, a3, ea, c4]; exact s5
    · refine ⟨e, τ, by omega, by omega, hal, fun _ => ea, ?_, ?_, hm, by rw [show e - s = c by omega]; exact hnu, f16.refl τ⟩
      · unfold f_X9_toNextToken_L89
        by_cases ea1 : al (b e) = 0
        · simp (disch := omega) only [↓bnd_s, ↓bnd2_s, ↓bnd3_s, ↓bnd4_s, ↓bnd5_s, ↓bndR_l, ↓bndR_r, ↓bndX_l, ↓bndX_r, bnd_s, bnd2_s, bnd3_s, bnd4_s, bnd5_s, bndR_l, bndR_r, bndX_l, bndX_r, nq_lt, nq_le, nq_inj, nq_add, nq_mul, nq_sub, nq_div, nq_neg1, nq_clamp, nq_ne1, nq_le1, ne1_lt, n1_lt0, n1_lt, n1_ne, nz0, nz1, nz2, nz3, nz4, nz5, nz6, nz8, nz10, nz31, nz32, nz50, nz400, nz800, nz3200, nz20000, nlt_f, nlt_t, nle_f, nle_t, neq_f, neq_t, gi_si_e, gi_si_n, gp_sp_e, gp_sp_n, gr_sr_e, gr_sr_n, gi_sp, gi_sr, gp_si, gp_sr, gr_si, gr_sp, upd_e, upd_n, un_e, un_n, an_sn_e, an_sn_n, an_sm, an_sv, am_sn, am_sm_e, am_sm_n, am_sv, ai_sn, ai_sm, ai_sv_e, ai_sv_n, reduceIte, or_false, false_or, or_true, true_or, or_self, and_true, true_and, and_false, false_and, not_true_eq_false, not_false_eq_true, h.cL, hc, h.cb hi2, a1, ea, ea1]; rw [si_id hc]
        · simp (disch := omega) only [↓bnd_s, ↓bnd2_s, ↓bnd3_s, ↓bnd4_s, ↓bnd5_s, ↓bndR_l, ↓bndR_r, ↓bndX_l, ↓bndX_r, bnd_s, bnd2_s, bnd3_s, bnd4_s, bnd5_s, bndR_l, bndR_r, bndX_l, bndX_r, nq_lt, nq_le, nq_inj, nq_add, nq_mul, nq_sub, nq_div, nq_neg1, nq_clamp, nq_ne1, nq_le1, ne1_lt, n1_lt0, n1_lt, n1_ne, nz0, nz1, nz2, nz3, nz4, nz5, nz6, nz8, nz10, nz31, nz32, nz50, nz400, nz800, nz3200, nz20000, nlt_f, nlt_t, nle_f, nle_t, neq_f, neq_t, gi_si_e, gi_si_n, gp_sp_e, gp_sp_n, gr_sr_e, gr_sr_n, gi_sp, gi_sr, gp_si, gp_sr, gr_si, gr_sp, upd_e, upd_n, un_e, un_n, an_sn_e, an_sn_n, an_sm, an_sv, am_sn, am_sm_e, am_sm_n, am_sv, ai_sn, ai_sm, ai_sv_e, ai_sv_n, reduceIte, or_false, false_or, or_true, true_or, or_self, and_true, true_and, and_false, false_and, not_true_eq_false, not_false_eq_true, h.cL, hc, h.cb hi2, a1, ea, ea1]; rw [si_id hc]
      · unfold f_X11_next_L128; simp (disch := omega) only [↓bnd_s, ↓bnd2_s, ↓bnd3_s, ↓bnd4_s, ↓bnd5_s, ↓bndR_l, ↓bndR_r, ↓bndX_l, ↓bndX_r, bnd_s, bnd2_s, bnd3_s, bnd4_s, bnd5_s, bndR_l, bndR_r, bndX_l, bndX_r, nq_lt, nq_le, nq_inj, nq_add, nq_mul, nq_sub, nq_div, nq_neg1, nq_clamp, nq_ne1, nq_le1, ne1_lt, n1_lt0, n1_lt, n1_ne, nz0, nz1, nz2, nz3, nz4, nz5, nz6, nz8, nz10, nz31, nz32, nz50, nz400, nz800, nz3200, nz20000, nlt_f, nlt_t, nle_f, nle_t, neq_f, neq_t, gi_si_e, gi_si_n, gp_sp_e, gp_sp_n, gr_sr_e, gr_sr_n, gi_sp, gi_sr, gp_si, gp_sr, gr_si, gr_sp, upd_e, upd_n, un_e, un_n, an_sn_e, an_sn_n, an_sm, an_sv, am_sn, am_sm_e, am_sm_n, am_sv, ai_sn, ai_sm, ai_sv_e, ai_sv_n, reduceIte, or_false, false_or, or_true, true_or, or_self, and_true, true_and, and_false, false_and, not_true_eq_false, not_false_eq_true, h.mL, hm, h.mb hi2, ht, a3, ea]
end TK
