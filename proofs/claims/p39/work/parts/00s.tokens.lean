/-! the text as a list of bytes below 128; its tokens, in the class alone -/
def al (B : Nat) : Nat := if 97 ≤ B ∧ B ≤ 122 then 0 else if 48 ≤ B ∧ B ≤ 57 then 1 else 2
theorem al_all : ∀ B : Nat, B < 128 → f_X9_alphabetOf (nI B) = some (if al B = 0 then nI 0 else if al B = 1 then nI 1 else -nI 1) := by decide +kernel
/-- w is what stands from p on -/
def Sf (T : List Nat) (p : Nat) (w : List Nat) : Prop := p + w.length = T.length ∧ ∀ k, k < w.length → T[p + k]? = w[k]?
theorem Sf.st (T : List Nat) : Sf T 0 T := ⟨Nat.zero_add _, fun k _ => by rw [Nat.zero_add]⟩
theorem Sf.nil {T : List Nat} {p : Nat} (h : Sf T p []) : p = T.length := h.1
theorem Sf.hd {T : List Nat} {p x : Nat} {w : List Nat} (h : Sf T p (x :: w)) : p < T.length ∧ T[p]? = some x := by
  have h1 := h.1
  rw [List.length_cons] at h1
  refine ⟨by omega, ?_⟩
  have := h.2 0 (by rw [List.length_cons]; omega)
  rw [Nat.add_zero] at this
  exact this
theorem Sf.tl {T : List Nat} {p x : Nat} {w : List Nat} (h : Sf T p (x :: w)) : Sf T (p + 1) w := by
  have h1 := h.1
  rw [List.length_cons] at h1
  refine ⟨by omega, fun k hk => ?_⟩
  have := h.2 (k + 1) (by rw [List.length_cons]; omega)
  rw [List.getElem?_cons_succ] at this
  rw [← this, show p + 1 + k = p + (k + 1) by omega]
theorem Sf.app {T : List Nat} : ∀ {u w : List Nat} {p : Nat}, Sf T p (u ++ w) → Sf T (p + u.length) w
  | [], _, _, h => h
  | x :: u, w, p, h => by
    have := Sf.app (u := u) (w := w) (p := p + 1) (Sf.tl h)
    rw [List.length_cons, show p + (u.length + 1) = p + 1 + u.length by omega]
    exact this
def sk : List Nat → List Nat
  | [] => []
  | x :: w => if x = 32 then sk w else x :: w
def pf (c : Nat) : List Nat → Nat
  | [] => 0
  | x :: w => if al x = c then pf c w + 1 else 0
def tk : List Nat → Nat
  | [] => 0
  | x :: w => if al x = 2 then 1 else pf (al x) w + 1
theorem sk_n {x : Nat} {w : List Nat} (h : x ≠ 32) : sk (x :: w) = x :: w := if_neg h
theorem sk_b (w : List Nat) : sk (32 :: w) = sk w := if_pos rfl
theorem pf_le (c : Nat) : ∀ w, pf c w ≤ w.length
  | [] => Nat.le_refl _
  | x :: w => by
    have := pf_le c w
    unfold pf
    rw [List.length_cons]
    split <;> omega
theorem tk_le (w : List Nat) : tk w ≤ w.length := by
  cases w with
  | nil => exact Nat.le_refl _
  | cons x w =>
    have := pf_le (al x) w
    show (if al x = 2 then 1 else pf (al x) w + 1) ≤ w.length + 1
    by_cases e : al x = 2
    · rw [if_pos e]; omega
    · rw [if_neg e]; omega
theorem al_le (B : Nat) : al B ≤ 2 := by
  unfold al
  split
  · omega
  · split <;> omega
/-- a word or number that ends where w begins -/
theorem pf_app {c : Nat} {w : List Nat} (hw : w = [] ∨ ∃ y v, w = y :: v ∧ al y ≠ c) : ∀ {u : List Nat}, (∀ x, x ∈ u → al x = c) → pf c (u ++ w) = u.length
  | [], _ => by
    rcases hw with rfl | ⟨y, v, rfl, hy⟩
    · rfl
    · exact if_neg hy
  | x :: u, h => by
    rw [List.cons_append, List.length_cons]
    show (if al x = c then pf c (u ++ w) + 1 else 0) = _
    rw [if_pos (h x List.mem_cons_self), pf_app hw fun y hy => h y (List.mem_cons_of_mem _ hy)]
theorem tk_app {c x : Nat} {u w : List Nat} (hw : w = [] ∨ ∃ y v, w = y :: v ∧ al y ≠ c) (hc : c < 2) (h : ∀ y, y ∈ x :: u → al y = c) : tk (x :: u ++ w) = u.length + 1 := by
  show (if al x = 2 then 1 else pf (al x) (u ++ w) + 1) = _
  have e := h x List.mem_cons_self
  rw [if_neg (by omega), e, pf_app hw fun y hy => h y (List.mem_cons_of_mem _ hy)]
def TXc (T : List Nat) (σ : St) : Prop := T.length ≤ 400 ∧ (∀ x, x ∈ T → 1 ≤ x ∧ x < 128) ∧ gi σ 81 = nI T.length ∧ ∀ (k x : Nat), T[k]? = some x → gr σ 11 k = nI x
/-- only the token's places change -/
def tC (σ σ' : St) : Prop := (∀ k, k ≠ 82 → k ≠ 83 → gi σ' k = gi σ k) ∧ (∀ k, gp σ' k = gp σ k) ∧ ∀ j, gr σ' j = gr σ j
theorem tC.refl (σ : St) : tC σ σ := ⟨fun _ _ _ => rfl, fun _ => rfl, fun _ => rfl⟩
theorem tC.trans {σ σ' σ2 : St} (h : tC σ σ') (h2 : tC σ' σ2) : tC σ σ2 := ⟨fun k a b => (h2.1 k a b).trans (h.1 k a b), fun k => (h2.2.1 k).trans (h.2.1 k), fun j => (h2.2.2 j).trans (h.2.2 j)⟩
theorem tC.s82 (σ : St) (x : Int32) : tC σ (si σ 82 x) := ⟨fun k h1 h2 => gi_si_n _ _ h1, fun _ => rfl, fun _ => rfl⟩
theorem tC.s83 (σ : St) (x : Int32) : tC σ (si σ 83 x) := ⟨fun k h1 h2 => gi_si_n _ _ h2, fun _ => rfl, fun _ => rfl⟩
theorem TXc.tr {T : List Nat} {σ σ' : St} (h : TXc T σ) (c : tC σ σ') : TXc T σ' :=
  ⟨h.1, h.2.1, (c.1 81 (by decide) (by decide)).trans h.2.2.1, fun k x hk => by rw [c.2.2]; exact h.2.2.2 k x hk⟩
section TK
variable {T : List Nat} {σ : St}
theorem TXc.l (h : TXc T σ) : T.length ≤ 400 := h.1
theorem TXc.cL (h : TXc T σ) : gi σ 81 = nI T.length := h.2.2.1
theorem TXc.by9 (h : TXc T σ) {k x : Nat} (hk : T[k]? = some x) : 1 ≤ x ∧ x < 128 := h.2.1 x (List.mem_of_getElem? hk)
theorem TXc.cb (h : TXc T σ) {k x : Nat} (hk : T[k]? = some x) : gr σ 11 k = nI x := h.2.2.2 k x hk
theorem skip_C : ∀ (w : List Nat) {fu p : Nat} {σ : St}, TXc T σ → gi σ 82 = nI p → Sf T p w → w.length < fu →
    ∃ p', Sf T p' (sk w) ∧ f_X9_toNextToken_L8 fu σ = some (si σ 82 (nI p')) := by
  intro w
  induction w with
  | nil =>
    intro fu p σ h hc hs hf
    obtain ⟨fu, rfl⟩ : ∃ f, fu = f + 1 := ⟨fu - 1, by omega⟩
    have hl := h.l
    have e := hs.nil
    refine ⟨p, hs, ?_⟩
    unfold f_X9_toNextToken_L8; simp (disch := omega) only [↓bnd_s, ↓bnd2_s, ↓bnd3_s, ↓bnd4_s, ↓bnd5_s, ↓bndR_l, ↓bndR_r, ↓bndX_l, ↓bndX_r, ↓bndQ_s, ↓bndQ2_s, bndQ_s, bndQ2_s, bnd_s, bnd2_s, bnd3_s, bnd4_s, bnd5_s, bndR_l, bndR_r, bndX_l, bndX_r, nq_lt, nq_le, nq_inj, nq_add, nq_mul, nq_sub, nq_div, nq_neg1, nq_clamp, nq_ne1, nq_le1, ne1_lt, n1_lt0, n1_lt, n1_ne, nz0, nz1, nz2, nz3, nz4, nz5, nz6, nz8, nz10, nz31, nz32, nz50, nz400, nz800, nz3200, nz20000, nlt_f, nlt_t, nle_f, nle_t, neq_f, neq_t, gi_si_e, gi_si_n, gp_sp_e, gp_sp_n, gr_sr_e, gr_sr_n, gi_sp, gi_sr, gp_si, gp_sr, gr_si, gr_sp, upd_e, upd_n, un_e, un_n, an_sn_e, an_sn_n, an_sm, an_sv, am_sn, am_sm_e, am_sm_n, am_sv, ai_sn, ai_sm, ai_sv_e, ai_sv_n, reduceIte, or_false, false_or, or_true, true_or, or_self, and_true, true_and, and_false, false_and, not_true_eq_false, not_false_eq_true, h.cL, hc]; rw [si_id hc]
  | cons x w ih =>
    intro fu p σ h hc hs hf
    rw [List.length_cons] at hf
    obtain ⟨fu, rfl⟩ : ∃ f, fu = f + 1 := ⟨fu - 1, by omega⟩
    have hl := h.l
    obtain ⟨hp, hx⟩ := hs.hd
    have hb := h.by9 hx
    by_cases e : x = 32
    · subst e
      obtain ⟨p', s1, s2⟩ := ih (fu := fu) (h.tr (tC.s82 σ (nI (p + 1)))) (by simp (disch := omega) only [gi_si_e, gi_si_n, gp_sp_e, gp_sp_n, gr_sr_e, gr_sr_n, gi_sp, gi_sr, gp_si, gp_sr, gr_si, gr_sp, upd_e, upd_n, un_e, un_n, an_sn_e, an_sn_n, an_sm, an_sv, am_sn, am_sm_e, am_sm_n, am_sv, ai_sn, ai_sm, ai_sv_e, ai_sv_n, reduceIte, or_false, false_or, or_true, true_or, or_self, and_true, true_and, and_false, false_and, not_true_eq_false, not_false_eq_true]) hs.tl (by omega)
      rw [si_si] at s2
      refine ⟨p', by rw [sk_b]; exact s1, ?_⟩
      unfold f_X9_toNextToken_L8; simp (disch := omega) only [↓bnd_s, ↓bnd2_s, ↓bnd3_s, ↓bnd4_s, ↓bnd5_s, ↓bndR_l, ↓bndR_r, ↓bndX_l, ↓bndX_r, ↓bndQ_s, ↓bndQ2_s, bndQ_s, bndQ2_s, bnd_s, bnd2_s, bnd3_s, bnd4_s, bnd5_s, bndR_l, bndR_r, bndX_l, bndX_r, nq_lt, nq_le, nq_inj, nq_add, nq_mul, nq_sub, nq_div, nq_neg1, nq_clamp, nq_ne1, nq_le1, ne1_lt, n1_lt0, n1_lt, n1_ne, nz0, nz1, nz2, nz3, nz4, nz5, nz6, nz8, nz10, nz31, nz32, nz50, nz400, nz800, nz3200, nz20000, nlt_f, nlt_t, nle_f, nle_t, neq_f, neq_t, gi_si_e, gi_si_n, gp_sp_e, gp_sp_n, gr_sr_e, gr_sr_n, gi_sp, gi_sr, gp_si, gp_sr, gr_si, gr_sp, upd_e, upd_n, un_e, un_n, an_sn_e, an_sn_n, an_sm, an_sv, am_sn, am_sm_e, am_sm_n, am_sv, ai_sn, ai_sm, ai_sv_e, ai_sv_n, reduceIte, or_false, false_or, or_true, true_or, or_self, and_true, true_and, and_false, false_and, not_true_eq_false, not_false_eq_true, h.cL, hc, h.cb hx]; exact s2
    · refine ⟨p, by rw [sk_n e]; exact hs, ?_⟩
      unfold f_X9_toNextToken_L8; simp (disch := omega) only [↓bnd_s, ↓bnd2_s, ↓bnd3_s, ↓bnd4_s, ↓bnd5_s, ↓bndR_l, ↓bndR_r, ↓bndX_l, ↓bndX_r, ↓bndQ_s, ↓bndQ2_s, bndQ_s, bndQ2_s, bnd_s, bnd2_s, bnd3_s, bnd4_s, bnd5_s, bndR_l, bndR_r, bndX_l, bndX_r, nq_lt, nq_le, nq_inj, nq_add, nq_mul, nq_sub, nq_div, nq_neg1, nq_clamp, nq_ne1, nq_le1, ne1_lt, n1_lt0, n1_lt, n1_ne, nz0, nz1, nz2, nz3, nz4, nz5, nz6, nz8, nz10, nz31, nz32, nz50, nz400, nz800, nz3200, nz20000, nlt_f, nlt_t, nle_f, nle_t, neq_f, neq_t, gi_si_e, gi_si_n, gp_sp_e, gp_sp_n, gr_sr_e, gr_sr_n, gi_sp, gi_sr, gp_si, gp_sr, gr_si, gr_sp, upd_e, upd_n, un_e, un_n, an_sn_e, an_sn_n, an_sm, an_sv, am_sn, am_sm_e, am_sm_n, am_sv, ai_sn, ai_sm, ai_sv_e, ai_sv_n, reduceIte, or_false, false_or, or_true, true_or, or_self, and_true, true_and, and_false, false_and, not_true_eq_false, not_false_eq_true, h.cL, hc, h.cb hx, e]; rw [si_id hc]
theorem end_C {c : Nat} (hc2 : c < 2) : ∀ (w : List Nat) {fu p : Nat} {σ : St}, TXc T σ → gi σ 83 = nI p → Sf T p w → w.length < fu →
    f_X9_toNextToken_L89 (nI c) fu σ = some (si σ 83 (nI (p + pf c w))) := by
  intro w
  induction w with
  | nil =>
    intro fu p σ h hc hs hf
    obtain ⟨fu, rfl⟩ : ∃ f, fu = f + 1 := ⟨fu - 1, by omega⟩
    have hl := h.l
    have e := hs.nil
    rw [show pf c [] = 0 from rfl, Nat.add_zero p]
    unfold f_X9_toNextToken_L89; simp (disch := omega) only [↓bnd_s, ↓bnd2_s, ↓bnd3_s, ↓bnd4_s, ↓bnd5_s, ↓bndR_l, ↓bndR_r, ↓bndX_l, ↓bndX_r, ↓bndQ_s, ↓bndQ2_s, bndQ_s, bndQ2_s, bnd_s, bnd2_s, bnd3_s, bnd4_s, bnd5_s, bndR_l, bndR_r, bndX_l, bndX_r, nq_lt, nq_le, nq_inj, nq_add, nq_mul, nq_sub, nq_div, nq_neg1, nq_clamp, nq_ne1, nq_le1, ne1_lt, n1_lt0, n1_lt, n1_ne, nz0, nz1, nz2, nz3, nz4, nz5, nz6, nz8, nz10, nz31, nz32, nz50, nz400, nz800, nz3200, nz20000, nlt_f, nlt_t, nle_f, nle_t, neq_f, neq_t, gi_si_e, gi_si_n, gp_sp_e, gp_sp_n, gr_sr_e, gr_sr_n, gi_sp, gi_sr, gp_si, gp_sr, gr_si, gr_sp, upd_e, upd_n, un_e, un_n, an_sn_e, an_sn_n, an_sm, an_sv, am_sn, am_sm_e, am_sm_n, am_sv, ai_sn, ai_sm, ai_sv_e, ai_sv_n, reduceIte, or_false, false_or, or_true, true_or, or_self, and_true, true_and, and_false, false_and, not_true_eq_false, not_false_eq_true, h.cL, hc]; rw [si_id hc]
  | cons x w ih =>
    intro fu p σ h hc hs hf
    rw [List.length_cons] at hf
    obtain ⟨fu, rfl⟩ : ∃ f, fu = f + 1 := ⟨fu - 1, by omega⟩
    have hl := h.l
    obtain ⟨hp, hx⟩ := hs.hd
    have hb := h.by9 hx
    have ha := al_all x hb.2
    have h2 := al_le x
    by_cases e : al x = c
    · have s2 := ih (fu := fu) (h.tr (tC.s83 σ (nI (p + 1)))) (by simp (disch := omega) only [gi_si_e, gi_si_n, gp_sp_e, gp_sp_n, gr_sr_e, gr_sr_n, gi_sp, gi_sr, gp_si, gp_sr, gr_si, gr_sp, upd_e, upd_n, un_e, un_n, an_sn_e, an_sn_n, an_sm, an_sv, am_sn, am_sm_e, am_sm_n, am_sv, ai_sn, ai_sm, ai_sv_e, ai_sv_n, reduceIte, or_false, false_or, or_true, true_or, or_self, and_true, true_and, and_false, false_and, not_true_eq_false, not_false_eq_true]) hs.tl (by omega)
      rw [si_si, show p + 1 + pf c w = p + (pf c w + 1) by omega] at s2
      rw [show pf c (x :: w) = pf c w + 1 from if_pos e]
      have ha2 : f_X9_alphabetOf (nI x) = some (nI c) := by
        rw [ha]
        rcases (show c = 0 ∨ c = 1 by omega) with rfl | rfl
        · rw [if_pos e]
        · rw [if_neg (by omega), if_pos e]
      unfold f_X9_toNextToken_L89; simp (disch := omega) only [↓bnd_s, ↓bnd2_s, ↓bnd3_s, ↓bnd4_s, ↓bnd5_s, ↓bndR_l, ↓bndR_r, ↓bndX_l, ↓bndX_r, ↓bndQ_s, ↓bndQ2_s, bndQ_s, bndQ2_s, bnd_s, bnd2_s, bnd3_s, bnd4_s, bnd5_s, bndR_l, bndR_r, bndX_l, bndX_r, nq_lt, nq_le, nq_inj, nq_add, nq_mul, nq_sub, nq_div, nq_neg1, nq_clamp, nq_ne1, nq_le1, ne1_lt, n1_lt0, n1_lt, n1_ne, nz0, nz1, nz2, nz3, nz4, nz5, nz6, nz8, nz10, nz31, nz32, nz50, nz400, nz800, nz3200, nz20000, nlt_f, nlt_t, nle_f, nle_t, neq_f, neq_t, gi_si_e, gi_si_n, gp_sp_e, gp_sp_n, gr_sr_e, gr_sr_n, gi_sp, gi_sr, gp_si, gp_sr, gr_si, gr_sp, upd_e, upd_n, un_e, un_n, an_sn_e, an_sn_n, an_sm, an_sv, am_sn, am_sm_e, am_sm_n, am_sv, ai_sn, ai_sm, ai_sv_e, ai_sv_n, reduceIte, or_false, false_or, or_true, true_or, or_self, and_true, true_and, and_false, false_and, not_true_eq_false, not_false_eq_true, h.cL, hc, h.cb hx, ha2]; exact s2
    · rw [show pf c (x :: w) = 0 from if_neg e, Nat.add_zero p]
      unfold f_X9_toNextToken_L89
      by_cases e0 : al x = 0
      · rw [if_pos e0] at ha
        simp (disch := omega) only [↓bnd_s, ↓bnd2_s, ↓bnd3_s, ↓bnd4_s, ↓bnd5_s, ↓bndR_l, ↓bndR_r, ↓bndX_l, ↓bndX_r, ↓bndQ_s, ↓bndQ2_s, bndQ_s, bndQ2_s, bnd_s, bnd2_s, bnd3_s, bnd4_s, bnd5_s, bndR_l, bndR_r, bndX_l, bndX_r, nq_lt, nq_le, nq_inj, nq_add, nq_mul, nq_sub, nq_div, nq_neg1, nq_clamp, nq_ne1, nq_le1, ne1_lt, n1_lt0, n1_lt, n1_ne, nz0, nz1, nz2, nz3, nz4, nz5, nz6, nz8, nz10, nz31, nz32, nz50, nz400, nz800, nz3200, nz20000, nlt_f, nlt_t, nle_f, nle_t, neq_f, neq_t, gi_si_e, gi_si_n, gp_sp_e, gp_sp_n, gr_sr_e, gr_sr_n, gi_sp, gi_sr, gp_si, gp_sr, gr_si, gr_sp, upd_e, upd_n, un_e, un_n, an_sn_e, an_sn_n, an_sm, an_sv, am_sn, am_sm_e, am_sm_n, am_sv, ai_sn, ai_sm, ai_sv_e, ai_sv_n, reduceIte, or_false, false_or, or_true, true_or, or_self, and_true, true_and, and_false, false_and, not_true_eq_false, not_false_eq_true, h.cL, hc, h.cb hx, ha]; rw [si_id hc]
      · by_cases e1 : al x = 1
        · rw [if_neg e0, if_pos e1] at ha
          simp (disch := omega) only [↓bnd_s, ↓bnd2_s, ↓bnd3_s, ↓bnd4_s, ↓bnd5_s, ↓bndR_l, ↓bndR_r, ↓bndX_l, ↓bndX_r, ↓bndQ_s, ↓bndQ2_s, bndQ_s, bndQ2_s, bnd_s, bnd2_s, bnd3_s, bnd4_s, bnd5_s, bndR_l, bndR_r, bndX_l, bndX_r, nq_lt, nq_le, nq_inj, nq_add, nq_mul, nq_sub, nq_div, nq_neg1, nq_clamp, nq_ne1, nq_le1, ne1_lt, n1_lt0, n1_lt, n1_ne, nz0, nz1, nz2, nz3, nz4, nz5, nz6, nz8, nz10, nz31, nz32, nz50, nz400, nz800, nz3200, nz20000, nlt_f, nlt_t, nle_f, nle_t, neq_f, neq_t, gi_si_e, gi_si_n, gp_sp_e, gp_sp_n, gr_sr_e, gr_sr_n, gi_sp, gi_sr, gp_si, gp_sr, gr_si, gr_sp, upd_e, upd_n, un_e, un_n, an_sn_e, an_sn_n, an_sm, an_sv, am_sn, am_sm_e, am_sm_n, am_sv, ai_sn, ai_sm, ai_sv_e, ai_sv_n, reduceIte, or_false, false_or, or_true, true_or, or_self, and_true, true_and, and_false, false_and, not_true_eq_false, not_false_eq_true, h.cL, hc, h.cb hx, ha]; rw [si_id hc]
        · rw [if_neg e0, if_neg e1] at ha
          simp (disch := omega) only [↓bnd_s, ↓bnd2_s, ↓bnd3_s, ↓bnd4_s, ↓bnd5_s, ↓bndR_l, ↓bndR_r, ↓bndX_l, ↓bndX_r, ↓bndQ_s, ↓bndQ2_s, bndQ_s, bndQ2_s, bnd_s, bnd2_s, bnd3_s, bnd4_s, bnd5_s, bndR_l, bndR_r, bndX_l, bndX_r, nq_lt, nq_le, nq_inj, nq_add, nq_mul, nq_sub, nq_div, nq_neg1, nq_clamp, nq_ne1, nq_le1, ne1_lt, n1_lt0, n1_lt, n1_ne, nz0, nz1, nz2, nz3, nz4, nz5, nz6, nz8, nz10, nz31, nz32, nz50, nz400, nz800, nz3200, nz20000, nlt_f, nlt_t, nle_f, nle_t, neq_f, neq_t, gi_si_e, gi_si_n, gp_sp_e, gp_sp_n, gr_sr_e, gr_sr_n, gi_sp, gi_sr, gp_si, gp_sr, gr_si, gr_sp, upd_e, upd_n, un_e, un_n, an_sn_e, an_sn_n, an_sm, an_sv, am_sn, am_sm_e, am_sm_n, am_sv, ai_sn, ai_sm, ai_sv_e, ai_sv_n, reduceIte, or_false, false_or, or_true, true_or, or_self, and_true, true_and, and_false, false_and, not_true_eq_false, not_false_eq_true, h.cL, hc, h.cb hx, ha]; rw [si_id hc]
/-- the token at which w begins is looked at -/
def TKc (T : List Nat) (σ : St) (w : List Nat) : Prop := ∃ p, Sf T p w ∧ gi σ 82 = nI p ∧ gi σ 83 = nI (p + tk w)
theorem next_C {p : Nat} {w : List Nat} (h : TXc T σ) (hc : gi σ 83 = nI p) (hs : Sf T p w) : ∃ σ', f_X9_toNextToken σ = some σ' ∧ TKc T σ' (sk w) ∧ tC σ σ' := by
  have hl := h.l
  have hw := hs.1
  obtain ⟨p', s1, s2⟩ := skip_C w (fu := FU) (h.tr (tC.s82 σ (nI p))) (gi_si_e _ _ rfl) hs (by unfold FU; omega)
  rw [si_si] at s2
  have hw' := s1.1
  cases hk : sk w with
  | nil =>
    rw [hk] at s1
    have e := s1.nil
    refine ⟨si (si σ 82 (nI p')) 83 (nI p'), ?_, ⟨p', s1, by simp (disch := omega) only [gi_si_e, gi_si_n, gp_sp_e, gp_sp_n, gr_sr_e, gr_sr_n, gi_sp, gi_sr, gp_si, gp_sr, gr_si, gr_sp, upd_e, upd_n, un_e, un_n, an_sn_e, an_sn_n, an_sm, an_sv, am_sn, am_sm_e, am_sm_n, am_sv, ai_sn, ai_sm, ai_sv_e, ai_sv_n, reduceIte, or_false, false_or, or_true, true_or, or_self, and_true, true_and, and_false, false_and, not_true_eq_false, not_false_eq_true], by simp (disch := omega) only [gi_si_e, gi_si_n, gp_sp_e, gp_sp_n, gr_sr_e, gr_sr_n, gi_sp, gi_sr, gp_si, gp_sr, gr_si, gr_sp, upd_e, upd_n, un_e, un_n, an_sn_e, an_sn_n, an_sm, an_sv, am_sn, am_sm_e, am_sm_n, am_sv, ai_sn, ai_sm, ai_sv_e, ai_sv_n, reduceIte, or_false, false_or, or_true, true_or, or_self, and_true, true_and, and_false, false_and, not_true_eq_false, not_false_eq_true]; rfl⟩, (tC.s82 _ _).trans (tC.s83 _ _)⟩
    unfold f_X9_toNextToken; rw [hc, s2, bnd_s]; simp (disch := omega) only [↓bnd_s, ↓bnd2_s, ↓bnd3_s, ↓bnd4_s, ↓bnd5_s, ↓bndR_l, ↓bndR_r, ↓bndX_l, ↓bndX_r, ↓bndQ_s, ↓bndQ2_s, bndQ_s, bndQ2_s, bnd_s, bnd2_s, bnd3_s, bnd4_s, bnd5_s, bndR_l, bndR_r, bndX_l, bndX_r, nq_lt, nq_le, nq_inj, nq_add, nq_mul, nq_sub, nq_div, nq_neg1, nq_clamp, nq_ne1, nq_le1, ne1_lt, n1_lt0, n1_lt, n1_ne, nz0, nz1, nz2, nz3, nz4, nz5, nz6, nz8, nz10, nz31, nz32, nz50, nz400, nz800, nz3200, nz20000, nlt_f, nlt_t, nle_f, nle_t, neq_f, neq_t, gi_si_e, gi_si_n, gp_sp_e, gp_sp_n, gr_sr_e, gr_sr_n, gi_sp, gi_sr, gp_si, gp_sr, gr_si, gr_sp, upd_e, upd_n, un_e, un_n, an_sn_e, an_sn_n, an_sm, an_sv, am_sn, am_sm_e, am_sm_n, am_sv, ai_sn, ai_sm, ai_sv_e, ai_sv_n, reduceIte, or_false, false_or, or_true, true_or, or_self, and_true, true_and, and_false, false_and, not_true_eq_false, not_false_eq_true, h.cL]
  | cons x v =>
    rw [hk] at s1 hw'
    rw [List.length_cons] at hw'
    obtain ⟨hp, hx⟩ := s1.hd
    have hb := h.by9 hx
    have ha := al_all x hb.2
    have h2 := al_le x
    have c2 : tC σ (si (si σ 82 (nI p')) 83 (nI (p' + 1))) := (tC.s82 _ _).trans (tC.s83 _ _)
    by_cases e2 : al x = 2
    · refine ⟨si (si σ 82 (nI p')) 83 (nI (p' + 1)), ?_, ⟨p', s1, by simp (disch := omega) only [gi_si_e, gi_si_n, gp_sp_e, gp_sp_n, gr_sr_e, gr_sr_n, gi_sp, gi_sr, gp_si, gp_sr, gr_si, gr_sp, upd_e, upd_n, un_e, un_n, an_sn_e, an_sn_n, an_sm, an_sv, am_sn, am_sm_e, am_sm_n, am_sv, ai_sn, ai_sm, ai_sv_e, ai_sv_n, reduceIte, or_false, false_or, or_true, true_or, or_self, and_true, true_and, and_false, false_and, not_true_eq_false, not_false_eq_true], by simp (disch := omega) only [gi_si_e, gi_si_n, gp_sp_e, gp_sp_n, gr_sr_e, gr_sr_n, gi_sp, gi_sr, gp_si, gp_sr, gr_si, gr_sp, upd_e, upd_n, un_e, un_n, an_sn_e, an_sn_n, an_sm, an_sv, am_sn, am_sm_e, am_sm_n, am_sv, ai_sn, ai_sm, ai_sv_e, ai_sv_n, reduceIte, or_false, false_or, or_true, true_or, or_self, and_true, true_and, and_false, false_and, not_true_eq_false, not_false_eq_true]; rw [show tk (x :: v) = 1 from if_pos e2]⟩, c2⟩
      rw [if_neg (by omega), if_neg (by omega)] at ha
      unfold f_X9_toNextToken; rw [hc, s2, bnd_s]; simp (disch := omega) only [↓bnd_s, ↓bnd2_s, ↓bnd3_s, ↓bnd4_s, ↓bnd5_s, ↓bndR_l, ↓bndR_r, ↓bndX_l, ↓bndX_r, ↓bndQ_s, ↓bndQ2_s, bndQ_s, bndQ2_s, bnd_s, bnd2_s, bnd3_s, bnd4_s, bnd5_s, bndR_l, bndR_r, bndX_l, bndX_r, nq_lt, nq_le, nq_inj, nq_add, nq_mul, nq_sub, nq_div, nq_neg1, nq_clamp, nq_ne1, nq_le1, ne1_lt, n1_lt0, n1_lt, n1_ne, nz0, nz1, nz2, nz3, nz4, nz5, nz6, nz8, nz10, nz31, nz32, nz50, nz400, nz800, nz3200, nz20000, nlt_f, nlt_t, nle_f, nle_t, neq_f, neq_t, gi_si_e, gi_si_n, gp_sp_e, gp_sp_n, gr_sr_e, gr_sr_n, gi_sp, gi_sr, gp_si, gp_sr, gr_si, gr_sp, upd_e, upd_n, un_e, un_n, an_sn_e, an_sn_n, an_sm, an_sv, am_sn, am_sm_e, am_sm_n, am_sv, ai_sn, ai_sm, ai_sv_e, ai_sv_n, reduceIte, or_false, false_or, or_true, true_or, or_self, and_true, true_and, and_false, false_and, not_true_eq_false, not_false_eq_true, h.cL, h.cb hx, ha, si_si]
      unfold FU f_X9_toNextToken_L89
      by_cases eL : T.length ≤ p' + 1
      · simp (disch := omega) only [↓bnd_s, ↓bnd2_s, ↓bnd3_s, ↓bnd4_s, ↓bnd5_s, ↓bndR_l, ↓bndR_r, ↓bndX_l, ↓bndX_r, ↓bndQ_s, ↓bndQ2_s, bndQ_s, bndQ2_s, bnd_s, bnd2_s, bnd3_s, bnd4_s, bnd5_s, bndR_l, bndR_r, bndX_l, bndX_r, nq_lt, nq_le, nq_inj, nq_add, nq_mul, nq_sub, nq_div, nq_neg1, nq_clamp, nq_ne1, nq_le1, ne1_lt, n1_lt0, n1_lt, n1_ne, nz0, nz1, nz2, nz3, nz4, nz5, nz6, nz8, nz10, nz31, nz32, nz50, nz400, nz800, nz3200, nz20000, nlt_f, nlt_t, nle_f, nle_t, neq_f, neq_t, gi_si_e, gi_si_n, gp_sp_e, gp_sp_n, gr_sr_e, gr_sr_n, gi_sp, gi_sr, gp_si, gp_sr, gr_si, gr_sp, upd_e, upd_n, un_e, un_n, an_sn_e, an_sn_n, an_sm, an_sv, am_sn, am_sm_e, am_sm_n, am_sv, ai_sn, ai_sm, ai_sv_e, ai_sv_n, reduceIte, or_false, false_or, or_true, true_or, or_self, and_true, true_and, and_false, false_and, not_true_eq_false, not_false_eq_true, h.cL, eL]
      · simp (disch := omega) only [↓bnd_s, ↓bnd2_s, ↓bnd3_s, ↓bnd4_s, ↓bnd5_s, ↓bndR_l, ↓bndR_r, ↓bndX_l, ↓bndX_r, ↓bndQ_s, ↓bndQ2_s, bndQ_s, bndQ2_s, bnd_s, bnd2_s, bnd3_s, bnd4_s, bnd5_s, bndR_l, bndR_r, bndX_l, bndX_r, nq_lt, nq_le, nq_inj, nq_add, nq_mul, nq_sub, nq_div, nq_neg1, nq_clamp, nq_ne1, nq_le1, ne1_lt, n1_lt0, n1_lt, n1_ne, nz0, nz1, nz2, nz3, nz4, nz5, nz6, nz8, nz10, nz31, nz32, nz50, nz400, nz800, nz3200, nz20000, nlt_f, nlt_t, nle_f, nle_t, neq_f, neq_t, gi_si_e, gi_si_n, gp_sp_e, gp_sp_n, gr_sr_e, gr_sr_n, gi_sp, gi_sr, gp_si, gp_sr, gr_si, gr_sp, upd_e, upd_n, un_e, un_n, an_sn_e, an_sn_n, an_sm, an_sv, am_sn, am_sm_e, am_sm_n, am_sv, ai_sn, ai_sm, ai_sv_e, ai_sv_n, reduceIte, or_false, false_or, or_true, true_or, or_self, and_true, true_and, and_false, false_and, not_true_eq_false, not_false_eq_true, h.cL, eL]
    · have hc2 : al x < 2 := by omega
      have g := end_C hc2 v (fu := FU) (σ := si (si σ 82 (nI p')) 83 (nI (p' + 1))) (h.tr c2) (by simp (disch := omega) only [gi_si_e, gi_si_n, gp_sp_e, gp_sp_n, gr_sr_e, gr_sr_n, gi_sp, gi_sr, gp_si, gp_sr, gr_si, gr_sp, upd_e, upd_n, un_e, un_n, an_sn_e, an_sn_n, an_sm, an_sv, am_sn, am_sm_e, am_sm_n, am_sv, ai_sn, ai_sm, ai_sv_e, ai_sv_n, reduceIte, or_false, false_or, or_true, true_or, or_self, and_true, true_and, and_false, false_and, not_true_eq_false, not_false_eq_true]) s1.tl (by unfold FU; omega)
      rw [si_si, show p' + 1 + pf (al x) v = p' + (pf (al x) v + 1) by omega] at g
      have ha2 : f_X9_alphabetOf (nI x) = some (nI (al x)) := by
        rw [ha]
        rcases (show al x = 0 ∨ al x = 1 by omega) with e | e
        · rw [if_pos e, e]
        · rw [if_neg (by omega), if_pos e, e]
      refine ⟨si (si σ 82 (nI p')) 83 (nI (p' + (pf (al x) v + 1))), ?_, ⟨p', s1, by simp (disch := omega) only [gi_si_e, gi_si_n, gp_sp_e, gp_sp_n, gr_sr_e, gr_sr_n, gi_sp, gi_sr, gp_si, gp_sr, gr_si, gr_sp, upd_e, upd_n, un_e, un_n, an_sn_e, an_sn_n, an_sm, an_sv, am_sn, am_sm_e, am_sm_n, am_sv, ai_sn, ai_sm, ai_sv_e, ai_sv_n, reduceIte, or_false, false_or, or_true, true_or, or_self, and_true, true_and, and_false, false_and, not_true_eq_false, not_false_eq_true], by simp (disch := omega) only [gi_si_e, gi_si_n, gp_sp_e, gp_sp_n, gr_sr_e, gr_sr_n, gi_sp, gi_sr, gp_si, gp_sr, gr_si, gr_sp, upd_e, upd_n, un_e, un_n, an_sn_e, an_sn_n, an_sm, an_sv, am_sn, am_sm_e, am_sm_n, am_sv, ai_sn, ai_sm, ai_sv_e, ai_sv_n, reduceIte, or_false, false_or, or_true, true_or, or_self, and_true, true_and, and_false, false_and, not_true_eq_false, not_false_eq_true]; rw [show tk (x :: v) = pf (al x) v + 1 from if_neg e2]⟩, (tC.s82 _ _).trans (tC.s83 _ _)⟩
      unfold f_X9_toNextToken; rw [hc, s2, bnd_s]; simp (disch := omega) only [↓bnd_s, ↓bnd2_s, ↓bnd3_s, ↓bnd4_s, ↓bnd5_s, ↓bndR_l, ↓bndR_r, ↓bndX_l, ↓bndX_r, ↓bndQ_s, ↓bndQ2_s, bndQ_s, bndQ2_s, bnd_s, bnd2_s, bnd3_s, bnd4_s, bnd5_s, bndR_l, bndR_r, bndX_l, bndX_r, nq_lt, nq_le, nq_inj, nq_add, nq_mul, nq_sub, nq_div, nq_neg1, nq_clamp, nq_ne1, nq_le1, ne1_lt, n1_lt0, n1_lt, n1_ne, nz0, nz1, nz2, nz3, nz4, nz5, nz6, nz8, nz10, nz31, nz32, nz50, nz400, nz800, nz3200, nz20000, nlt_f, nlt_t, nle_f, nle_t, neq_f, neq_t, gi_si_e, gi_si_n, gp_sp_e, gp_sp_n, gr_sr_e, gr_sr_n, gi_sp, gi_sr, gp_si, gp_sr, gr_si, gr_sp, upd_e, upd_n, un_e, un_n, an_sn_e, an_sn_n, an_sm, an_sv, am_sn, am_sm_e, am_sm_n, am_sv, ai_sn, ai_sm, ai_sv_e, ai_sv_n, reduceIte, or_false, false_or, or_true, true_or, or_self, and_true, true_and, and_false, false_and, not_true_eq_false, not_false_eq_true, h.cL, h.cb hx, ha2, si_si]
      rw [g]; rfl
theorem TKc.next {u w : List Nat} (h : TXc T σ) (t : TKc T σ (u ++ w)) (hu : tk (u ++ w) = u.length) : ∃ σ', f_X9_toNextToken σ = some σ' ∧ TKc T σ' (sk w) ∧ tC σ σ' := by
  obtain ⟨p, t1, t2, t3⟩ := t
  rw [hu] at t3
  exact next_C h t3 t1.app
theorem TKc.tr {σ' : St} {w : List Nat} (t : TKc T σ w) (h1 : gi σ' 82 = gi σ 82) (h2 : gi σ' 83 = gi σ 83) : TKc T σ' w := by
  obtain ⟨p, t1, t2, t3⟩ := t
  exact ⟨p, t1, h1.trans t2, h2.trans t3⟩
/-- words and signs -/
def wd : Nat → List Nat
  | 0 => [115, 97, 109, 101]
  | 1 => [114, 105, 115, 101]
  | 2 => [102, 97, 108, 108]
  | 3 => [119, 97, 118, 101]
  | 4 => [100, 114, 97, 119]
  | 5 => [116, 101, 101, 116, 104]
  | 6 => [59]
  | 7 => [45]
  | 8 => [109, 111, 100]
  | _ => []
theorem wd_len : ∀ i : Nat, i < 9 → zSl.getD i 0 = (wd i).length ∧ sLen i = nI (wd i).length ∧ (wd i).length ≤ 5 ∧ 1 ≤ (wd i).length := by decide +kernel
theorem wd_at : ∀ i : Nat, i < 9 → ∀ q : Nat, q < 5 → q < (wd i).length → sCh i (nI q) = nI ((wd i).getD q 0) ∧ (wd i).getD q 0 < 128 := by decide +kernel
theorem tok_C {i : Nat} (hi : i < 9) {p : Nat} (h : TXc T σ) (h82 : gi σ 82 = nI p) {w : List Nat} (hw : Sf T p w) (h83 : gi σ 83 = nI (p + (wd i).length)) (hl2 : (wd i).length ≤ w.length) : ∀ (d : Nat) {fu q : Nat}, (wd i).length - q = d → d < fu → q ≤ (wd i).length →
    f_X9_isToken_L23 i σ fu (nI (p + q)) = some (if (w.take (wd i).length).drop q = (wd i).drop q then .inr () else .inl (nI 0)) := by
  obtain ⟨w1, w2, w3, w4⟩ := wd_len i hi
  have hT := h.l
  have hwl := hw.1
  intro d
  induction d with
  | zero =>
    intro fu q hd hf hq
    obtain ⟨fu, rfl⟩ : ∃ f, fu = f + 1 := ⟨fu - 1, by omega⟩
    have e : q = (wd i).length := by omega
    subst e
    rw [if_pos (by rw [List.drop_eq_nil_of_le (by rw [List.length_take]; omega), List.drop_eq_nil_of_le (Nat.le_refl _)])]
    unfold f_X9_isToken_L23; simp (disch := omega) only [↓bnd_s, ↓bnd2_s, ↓bnd3_s, ↓bnd4_s, ↓bnd5_s, ↓bndR_l, ↓bndR_r, ↓bndX_l, ↓bndX_r, ↓bndQ_s, ↓bndQ2_s, bndQ_s, bndQ2_s, bnd_s, bnd2_s, bnd3_s, bnd4_s, bnd5_s, bndR_l, bndR_r, bndX_l, bndX_r, nq_lt, nq_le, nq_inj, nq_add, nq_mul, nq_sub, nq_div, nq_neg1, nq_clamp, nq_ne1, nq_le1, ne1_lt, n1_lt0, n1_lt, n1_ne, nz0, nz1, nz2, nz3, nz4, nz5, nz6, nz8, nz10, nz31, nz32, nz50, nz400, nz800, nz3200, nz20000, nlt_f, nlt_t, nle_f, nle_t, neq_f, neq_t, gi_si_e, gi_si_n, gp_sp_e, gp_sp_n, gr_sr_e, gr_sr_n, gi_sp, gi_sr, gp_si, gp_sr, gr_si, gr_sp, upd_e, upd_n, un_e, un_n, an_sn_e, an_sn_n, an_sm, an_sv, am_sn, am_sm_e, am_sm_n, am_sv, ai_sn, ai_sm, ai_sv_e, ai_sv_n, reduceIte, or_false, false_or, or_true, true_or, or_self, and_true, true_and, and_false, false_and, not_true_eq_false, not_false_eq_true, h83]
  | succ d ih =>
    intro fu q hd hf hq
    obtain ⟨fu, rfl⟩ : ∃ f, fu = f + 1 := ⟨fu - 1, by omega⟩
    have hq2 : q < (wd i).length := by omega
    obtain ⟨a1, a2⟩ := wd_at i hi q (by omega) hq2
    have g := ih (fu := fu) (q := q + 1) (by omega) (by omega) (by omega)
    have hx := hw.2 q (by omega)
    have hx2 := List.getElem?_eq_getElem (l := w) (i := q) (by omega)
    obtain ⟨x, ex⟩ : ∃ x, x = w[q]'(by omega) := ⟨_, rfl⟩
    rw [← ex] at hx2
    rw [hx2] at hx
    have hb := h.by9 hx
    have e1 : (w.take (wd i).length).drop q = x :: (w.take (wd i).length).drop (q + 1) := by
      rw [List.drop_eq_getElem_cons (by rw [List.length_take]; omega), List.getElem_take, ex]
    have e2 : (wd i).drop q = (wd i).getD q 0 :: (wd i).drop (q + 1) := by
      rw [List.drop_eq_getElem_cons hq2, List.getD_eq_getElem?_getD, List.getElem?_eq_getElem hq2]; rfl
    rw [e1, e2]
    unfold f_X9_isToken_L23
    rw [w1]
    by_cases e : x = (wd i).getD q 0
    · rw [← e] at a1
      have cc : (x :: (w.take (wd i).length).drop (q + 1) = (wd i).getD q 0 :: (wd i).drop (q + 1)) ↔ ((w.take (wd i).length).drop (q + 1) = (wd i).drop (q + 1)) := ⟨fun z => (List.cons.inj z).2, fun z => by rw [z, e]⟩
      rw [ite_congr (propext cc) (fun _ => rfl) (fun _ => rfl)]
      simp (disch := omega) only [↓bnd_s, ↓bnd2_s, ↓bnd3_s, ↓bnd4_s, ↓bnd5_s, ↓bndR_l, ↓bndR_r, ↓bndX_l, ↓bndX_r, ↓bndQ_s, ↓bndQ2_s, bndQ_s, bndQ2_s, bnd_s, bnd2_s, bnd3_s, bnd4_s, bnd5_s, bndR_l, bndR_r, bndX_l, bndX_r, nq_lt, nq_le, nq_inj, nq_add, nq_mul, nq_sub, nq_div, nq_neg1, nq_clamp, nq_ne1, nq_le1, ne1_lt, n1_lt0, n1_lt, n1_ne, nz0, nz1, nz2, nz3, nz4, nz5, nz6, nz8, nz10, nz31, nz32, nz50, nz400, nz800, nz3200, nz20000, nlt_f, nlt_t, nle_f, nle_t, neq_f, neq_t, gi_si_e, gi_si_n, gp_sp_e, gp_sp_n, gr_sr_e, gr_sr_n, gi_sp, gi_sr, gp_si, gp_sr, gr_si, gr_sp, upd_e, upd_n, un_e, un_n, an_sn_e, an_sn_n, an_sm, an_sv, am_sn, am_sm_e, am_sm_n, am_sv, ai_sn, ai_sm, ai_sv_e, ai_sv_n, reduceIte, or_false, false_or, or_true, true_or, or_self, and_true, true_and, and_false, false_and, not_true_eq_false, not_false_eq_true, h82, h83, Nat.add_sub_cancel_left, h.cb hx, a1]
      exact g
    · rw [if_neg (fun z => e (List.cons.inj z).1)]
      simp (disch := omega) only [↓bnd_s, ↓bnd2_s, ↓bnd3_s, ↓bnd4_s, ↓bnd5_s, ↓bndR_l, ↓bndR_r, ↓bndX_l, ↓bndX_r, ↓bndQ_s, ↓bndQ2_s, bndQ_s, bndQ2_s, bnd_s, bnd2_s, bnd3_s, bnd4_s, bnd5_s, bndR_l, bndR_r, bndX_l, bndX_r, nq_lt, nq_le, nq_inj, nq_add, nq_mul, nq_sub, nq_div, nq_neg1, nq_clamp, nq_ne1, nq_le1, ne1_lt, n1_lt0, n1_lt, n1_ne, nz0, nz1, nz2, nz3, nz4, nz5, nz6, nz8, nz10, nz31, nz32, nz50, nz400, nz800, nz3200, nz20000, nlt_f, nlt_t, nle_f, nle_t, neq_f, neq_t, gi_si_e, gi_si_n, gp_sp_e, gp_sp_n, gr_sr_e, gr_sr_n, gi_sp, gi_sr, gp_si, gp_sr, gr_si, gr_sp, upd_e, upd_n, un_e, un_n, an_sn_e, an_sn_n, an_sm, an_sv, am_sn, am_sm_e, am_sm_n, am_sv, ai_sn, ai_sm, ai_sv_e, ai_sv_n, reduceIte, or_false, false_or, or_true, true_or, or_self, and_true, true_and, and_false, false_and, not_true_eq_false, not_false_eq_true, h82, h83, Nat.add_sub_cancel_left, h.cb hx, a1, e]
theorem isTok_C {i : Nat} (hi : i < 9) (h : TXc T σ) {w : List Nat} (t : TKc T σ w) : f_X9_isToken i σ = some (if w.take (tk w) = wd i then nI 1 else nI 0) := by
  obtain ⟨p, t1, t2, t3⟩ := t
  obtain ⟨w1, w2, w3, w4⟩ := wd_len i hi
  have hT := h.l
  have hwl := t1.1
  have htk := tk_le w
  unfold f_X9_isToken
  rw [t2, t3, w2, nq_sub (by omega), Nat.add_sub_cancel_left]
  by_cases e : tk w = (wd i).length
  · rw [e] at t3
    have g := tok_C hi h t2 t1 t3 (by omega) _ (fu := FU) (q := 0) rfl (by unfold FU; omega) (by omega)
    rw [List.drop_zero, List.drop_zero, Nat.add_zero] at g
    rw [e, if_pos rfl, g]
    by_cases e2 : w.take (wd i).length = wd i
    · rw [if_pos e2, if_pos e2]; rfl
    · rw [if_neg e2, if_neg e2]; rfl
  · rw [if_neg (by rw [nq_inj (by omega) (by omega)]; exact e), if_neg (fun z => e (by rw [← z, List.length_take]; omega))]; rfl
theorem readTok_no {i : Nat} (hi : i < 9) (h : TXc T σ) {w : List Nat} (t : TKc T σ w) (hne : w.take (tk w) ≠ wd i) : f_X5_readToken i σ = some (nI 0, σ) := by
  unfold f_X5_readToken
  rw [isTok_C hi h t, if_neg hne]; simp (disch := omega) only [↓bnd_s, ↓bnd2_s, ↓bnd3_s, ↓bnd4_s, ↓bnd5_s, ↓bndR_l, ↓bndR_r, ↓bndX_l, ↓bndX_r, ↓bndQ_s, ↓bndQ2_s, bndQ_s, bndQ2_s, bnd_s, bnd2_s, bnd3_s, bnd4_s, bnd5_s, bndR_l, bndR_r, bndX_l, bndX_r, nq_lt, nq_le, nq_inj, nq_add, nq_mul, nq_sub, nq_div, nq_neg1, nq_clamp, nq_ne1, nq_le1, ne1_lt, n1_lt0, n1_lt, n1_ne, nz0, nz1, nz2, nz3, nz4, nz5, nz6, nz8, nz10, nz31, nz32, nz50, nz400, nz800, nz3200, nz20000, nlt_f, nlt_t, nle_f, nle_t, neq_f, neq_t, gi_si_e, gi_si_n, gp_sp_e, gp_sp_n, gr_sr_e, gr_sr_n, gi_sp, gi_sr, gp_si, gp_sr, gr_si, gr_sp, upd_e, upd_n, un_e, un_n, an_sn_e, an_sn_n, an_sm, an_sv, am_sn, am_sm_e, am_sm_n, am_sv, ai_sn, ai_sm, ai_sv_e, ai_sv_n, reduceIte, or_false, false_or, or_true, true_or, or_self, and_true, true_and, and_false, false_and, not_true_eq_false, not_false_eq_true]
theorem readTok_yes {i : Nat} (hi : i < 9) (h : TXc T σ) {w : List Nat} (t : TKc T σ (wd i ++ w)) (hk : tk (wd i ++ w) = (wd i).length) : ∃ σ', f_X5_readToken i σ = some (nI 1, σ') ∧ TKc T σ' (sk w) ∧ tC σ σ' := by
  obtain ⟨σ', n1, n2, n3⟩ := TKc.next h t hk
  refine ⟨σ', ?_, n2, n3⟩
  unfold f_X5_readToken
  rw [isTok_C hi h t, hk, List.take_append_of_le_length (Nat.le_refl _), List.take_of_length_le (Nat.le_refl _), if_pos rfl]
  simp (disch := omega) only [↓bnd_s, ↓bnd2_s, ↓bnd3_s, ↓bnd4_s, ↓bnd5_s, ↓bndR_l, ↓bndR_r, ↓bndX_l, ↓bndX_r, ↓bndQ_s, ↓bndQ2_s, bndQ_s, bndQ2_s, bnd_s, bnd2_s, bnd3_s, bnd4_s, bnd5_s, bndR_l, bndR_r, bndX_l, bndX_r, nq_lt, nq_le, nq_inj, nq_add, nq_mul, nq_sub, nq_div, nq_neg1, nq_clamp, nq_ne1, nq_le1, ne1_lt, n1_lt0, n1_lt, n1_ne, nz0, nz1, nz2, nz3, nz4, nz5, nz6, nz8, nz10, nz31, nz32, nz50, nz400, nz800, nz3200, nz20000, nlt_f, nlt_t, nle_f, nle_t, neq_f, neq_t, gi_si_e, gi_si_n, gp_sp_e, gp_sp_n, gr_sr_e, gr_sr_n, gi_sp, gi_sr, gp_si, gp_sr, gr_si, gr_sp, upd_e, upd_n, un_e, un_n, an_sn_e, an_sn_n, an_sm, an_sv, am_sn, am_sm_e, am_sm_n, am_sv, ai_sn, ai_sm, ai_sv_e, ai_sv_n, reduceIte, or_false, false_or, or_true, true_or, or_self, and_true, true_and, and_false, false_and, not_true_eq_false, not_false_eq_true, n1]
/-- numbers below 1000, as they are written -/
def dcL (n : Nat) : List Nat := if n < 10 then [48 + n] else if n < 100 then [48 + n / 10, 48 + n % 10] else [48 + n / 100, 48 + n / 10 % 10, 48 + n % 10]
theorem dc_all : ∀ n : Nat, n < 1000 → (∃ x u, dcL n = x :: u ∧ u.length ≤ 2) ∧ (∀ x, x ∈ dcL n → 48 ≤ x ∧ x ≤ 57) ∧ (dcL n).foldl (fun v x => v * 10 + (x - 48)) 0 = n := by
  intro n hn
  unfold dcL
  by_cases h1 : n < 10
  · rw [if_pos h1]
    refine ⟨⟨_, _, rfl, by decide⟩, fun x hx => ?_, ?_⟩
    · rw [List.mem_singleton.mp hx]; omega
    · show 0 * 10 + (48 + n - 48) = n
      omega
  · rw [if_neg h1]
    by_cases h2 : n < 100
    · rw [if_pos h2]
      refine ⟨⟨_, _, rfl, by simp⟩, fun x hx => ?_, ?_⟩
      · rcases List.mem_cons.mp hx with rfl | hx
        · omega
        · rw [List.mem_singleton.mp hx]; omega
      · show (0 * 10 + (48 + n / 10 - 48)) * 10 + (48 + n % 10 - 48) = n
        omega
    · rw [if_neg h2]
      refine ⟨⟨_, _, rfl, by simp⟩, fun x hx => ?_, ?_⟩
      · rcases List.mem_cons.mp hx with rfl | hx
        · omega
        · rcases List.mem_cons.mp hx with rfl | hx
          · omega
          · rw [List.mem_singleton.mp hx]; omega
      · show ((0 * 10 + (48 + n / 100 - 48)) * 10 + (48 + n / 10 % 10 - 48)) * 10 + (48 + n % 10 - 48) = n
        omega
theorem al_d {x : Nat} (h : 48 ≤ x ∧ x ≤ 57) : al x = 1 := by
  unfold al
  rw [if_neg (by omega), if_pos h]
theorem fold_le : ∀ (u : List Nat) (v : Nat), (∀ x, x ∈ u → 48 ≤ x ∧ x ≤ 57) → u.foldl (fun v x => v * 10 + (x - 48)) v < (v + 1) * 10 ^ u.length
  | [], v, _ => by rw [List.foldl_nil, List.length_nil]; omega
  | x :: u, v, h => by
    have h1 := fold_le u (v * 10 + (x - 48)) fun y hy => h y (List.mem_cons_of_mem _ hy)
    have h2 := h x List.mem_cons_self
    rw [List.foldl_cons, List.length_cons, Nat.pow_succ]
    refine Nat.lt_of_lt_of_le h1 ?_
    rw [← Nat.mul_assoc, Nat.mul_right_comm]
    exact Nat.mul_le_mul_right _ (by omega)
theorem num_C {E : Nat} (h83 : gi σ 83 = nI E) (h : TXc T σ) : ∀ (u w : List Nat) {fu p v : Nat}, Sf T p (u ++ w) → (∀ x, x ∈ u → 48 ≤ x ∧ x ≤ 57) → E = p + u.length → u.length < fu → (v + 1) * 10 ^ u.length ≤ 10000 →
    f_X9_valueOfNumber_L45 σ fu (nI v) (nI p) = some (nI (u.foldl (fun v x => v * 10 + (x - 48)) v)) := by
  have hT := h.l
  intro u
  induction u with
  | nil =>
    intro w fu p v hs hd hE hf hv
    obtain ⟨fu, rfl⟩ : ∃ f, fu = f + 1 := ⟨fu - 1, by omega⟩
    have := hs.1
    rw [List.length_nil] at hE
    rw [List.foldl_nil]
    unfold f_X9_valueOfNumber_L45; simp (disch := omega) only [↓bnd_s, ↓bnd2_s, ↓bnd3_s, ↓bnd4_s, ↓bnd5_s, ↓bndR_l, ↓bndR_r, ↓bndX_l, ↓bndX_r, ↓bndQ_s, ↓bndQ2_s, bndQ_s, bndQ2_s, bnd_s, bnd2_s, bnd3_s, bnd4_s, bnd5_s, bndR_l, bndR_r, bndX_l, bndX_r, nq_lt, nq_le, nq_inj, nq_add, nq_mul, nq_sub, nq_div, nq_neg1, nq_clamp, nq_ne1, nq_le1, ne1_lt, n1_lt0, n1_lt, n1_ne, nz0, nz1, nz2, nz3, nz4, nz5, nz6, nz8, nz10, nz31, nz32, nz50, nz400, nz800, nz3200, nz20000, nlt_f, nlt_t, nle_f, nle_t, neq_f, neq_t, gi_si_e, gi_si_n, gp_sp_e, gp_sp_n, gr_sr_e, gr_sr_n, gi_sp, gi_sr, gp_si, gp_sr, gr_si, gr_sp, upd_e, upd_n, un_e, un_n, an_sn_e, an_sn_n, an_sm, an_sv, am_sn, am_sm_e, am_sm_n, am_sv, ai_sn, ai_sm, ai_sv_e, ai_sv_n, reduceIte, or_false, false_or, or_true, true_or, or_self, and_true, true_and, and_false, false_and, not_true_eq_false, not_false_eq_true, h83, hE, Nat.add_zero]
  | cons x u ih =>
    intro w fu p v hs hd hE hf hv
    rw [List.length_cons] at hf hE
    obtain ⟨fu, rfl⟩ : ∃ f, fu = f + 1 := ⟨fu - 1, by omega⟩
    obtain ⟨hp, hx⟩ := Sf.hd (w := u ++ w) hs
    have hb := hd x List.mem_cons_self
    have hle := Sf.app (u := x :: u) hs
    have hle2 := hle.1
    rw [List.length_cons] at hle2
    have hv2 : (v * 10 + (x - 48) + 1) * 10 ^ u.length ≤ 10000 := by
      refine Nat.le_trans ?_ hv
      rw [List.length_cons, Nat.pow_succ, ← Nat.mul_assoc, Nat.mul_right_comm]
      exact Nat.mul_le_mul_right _ (by omega)
    have hv3 : v * 10 + (x - 48) + 1 ≤ 10000 := Nat.le_trans (Nat.le_mul_of_pos_right _ (Nat.pow_pos (by decide))) hv2
    have g := ih w (fu := fu) (p := p + 1) (v := v * 10 + (x - 48)) (Sf.tl (w := u ++ w) hs) (fun y hy => hd y (List.mem_cons_of_mem _ hy)) (by omega) (by omega) hv2
    rw [List.foldl_cons]
    unfold f_X9_valueOfNumber_L45
    rw [show (48 : Int32) = nI 48 from rfl]
    simp (disch := omega) only [↓bnd_s, ↓bnd2_s, ↓bnd3_s, ↓bnd4_s, ↓bnd5_s, ↓bndR_l, ↓bndR_r, ↓bndX_l, ↓bndX_r, ↓bndQ_s, ↓bndQ2_s, bndQ_s, bndQ2_s, bnd_s, bnd2_s, bnd3_s, bnd4_s, bnd5_s, bndR_l, bndR_r, bndX_l, bndX_r, nq_lt, nq_le, nq_inj, nq_add, nq_mul, nq_sub, nq_div, nq_neg1, nq_clamp, nq_ne1, nq_le1, ne1_lt, n1_lt0, n1_lt, n1_ne, nz0, nz1, nz2, nz3, nz4, nz5, nz6, nz8, nz10, nz31, nz32, nz50, nz400, nz800, nz3200, nz20000, nlt_f, nlt_t, nle_f, nle_t, neq_f, neq_t, gi_si_e, gi_si_n, gp_sp_e, gp_sp_n, gr_sr_e, gr_sr_n, gi_sp, gi_sr, gp_si, gp_sr, gr_si, gr_sp, upd_e, upd_n, un_e, un_n, an_sn_e, an_sn_n, an_sm, an_sv, am_sn, am_sm_e, am_sm_n, am_sv, ai_sn, ai_sm, ai_sv_e, ai_sv_n, reduceIte, or_false, false_or, or_true, true_or, or_self, and_true, true_and, and_false, false_and, not_true_eq_false, not_false_eq_true, h83, h.cb hx]
    exact g
theorem value_C {n : Nat} (hn : n < 1000) {w : List Nat} (hw : w = [] ∨ ∃ y v, w = y :: v ∧ al y ≠ 1) (h : TXc T σ) (t : TKc T σ (dcL n ++ w)) : f_X9_valueOfNumber σ = some (nI n) ∧ tk (dcL n ++ w) = (dcL n).length := by
  obtain ⟨⟨x, u, d1, d2⟩, d3, d4⟩ := dc_all n hn
  have hk : tk (dcL n ++ w) = (dcL n).length := by
    rw [d1, List.length_cons]
    refine tk_app hw (by decide) fun y hy => ?_
    rw [← d1] at hy
    exact al_d (d3 y hy)
  refine ⟨?_, hk⟩
  obtain ⟨p, t1, t2, t3⟩ := t
  rw [hk] at t3
  have hT := h.l
  have t1' := t1
  rw [d1, List.cons_append] at t1'
  obtain ⟨hp, hx⟩ := t1'.hd
  have hb := h.by9 hx
  have hbd := d3 x (by rw [d1]; exact List.mem_cons_self)
  have ha := al_all x hb.2
  rw [al_d hbd, if_neg (by decide), if_pos rfl] at ha
  have hl3 : (dcL n).length ≤ 3 := by rw [d1, List.length_cons]; omega
  have hl1 : 1 ≤ (dcL n).length := by rw [d1, List.length_cons]; omega
  have g := num_C t3 h (dcL n) w (fu := FU) (p := p) (v := 0) t1 d3 rfl (by unfold FU; omega) (by
    rw [Nat.zero_add, Nat.one_mul]
    exact Nat.le_trans (Nat.pow_le_pow_right (by decide) hl3) (by decide))
  rw [d4] at g
  unfold f_X9_valueOfNumber f_X9_isAtEnd
  simp (disch := omega) only [↓bnd_s, ↓bnd2_s, ↓bnd3_s, ↓bnd4_s, ↓bnd5_s, ↓bndR_l, ↓bndR_r, ↓bndX_l, ↓bndX_r, ↓bndQ_s, ↓bndQ2_s, bndQ_s, bndQ2_s, bnd_s, bnd2_s, bnd3_s, bnd4_s, bnd5_s, bndR_l, bndR_r, bndX_l, bndX_r, nq_lt, nq_le, nq_inj, nq_add, nq_mul, nq_sub, nq_div, nq_neg1, nq_clamp, nq_ne1, nq_le1, ne1_lt, n1_lt0, n1_lt, n1_ne, nz0, nz1, nz2, nz3, nz4, nz5, nz6, nz8, nz10, nz31, nz32, nz50, nz400, nz800, nz3200, nz20000, nlt_f, nlt_t, nle_f, nle_t, neq_f, neq_t, gi_si_e, gi_si_n, gp_sp_e, gp_sp_n, gr_sr_e, gr_sr_n, gi_sp, gi_sr, gp_si, gp_sr, gr_si, gr_sp, upd_e, upd_n, un_e, un_n, an_sn_e, an_sn_n, an_sm, an_sv, am_sn, am_sm_e, am_sm_n, am_sv, ai_sn, ai_sm, ai_sv_e, ai_sv_n, reduceIte, or_false, false_or, or_true, true_or, or_self, and_true, true_and, and_false, false_and, not_true_eq_false, not_false_eq_true, h.cL, t2, t3, h.cb hx, ha, Nat.add_sub_cancel_left, g]
theorem readNum_C {n lo hi : Nat} (hn : n < 1000) (h1 : lo ≤ n) (h2 : n ≤ hi) (h3 : hi < 100000) {w : List Nat} (hw : w = [] ∨ ∃ y v, w = y :: v ∧ al y ≠ 1) (h : TXc T σ) (t : TKc T σ (dcL n ++ w)) : ∃ σ', f_X5_readNumber (nI lo) (nI hi) σ = some (nI n, σ') ∧ TKc T σ' (sk w) ∧ tC σ σ' := by
  obtain ⟨v1, v2⟩ := value_C hn hw h t
  obtain ⟨σ', n1, n2, n3⟩ := TKc.next h t v2
  refine ⟨σ', ?_, n2, n3⟩
  unfold f_X5_readNumber
  simp (disch := omega) only [↓bnd_s, ↓bnd2_s, ↓bnd3_s, ↓bnd4_s, ↓bnd5_s, ↓bndR_l, ↓bndR_r, ↓bndX_l, ↓bndX_r, ↓bndQ_s, ↓bndQ2_s, bndQ_s, bndQ2_s, bnd_s, bnd2_s, bnd3_s, bnd4_s, bnd5_s, bndR_l, bndR_r, bndX_l, bndX_r, nq_lt, nq_le, nq_inj, nq_add, nq_mul, nq_sub, nq_div, nq_neg1, nq_clamp, nq_ne1, nq_le1, ne1_lt, n1_lt0, n1_lt, n1_ne, nz0, nz1, nz2, nz3, nz4, nz5, nz6, nz8, nz10, nz31, nz32, nz50, nz400, nz800, nz3200, nz20000, nlt_f, nlt_t, nle_f, nle_t, neq_f, neq_t, gi_si_e, gi_si_n, gp_sp_e, gp_sp_n, gr_sr_e, gr_sr_n, gi_sp, gi_sr, gp_si, gp_sr, gr_si, gr_sp, upd_e, upd_n, un_e, un_n, an_sn_e, an_sn_n, an_sm, an_sv, am_sn, am_sm_e, am_sm_n, am_sv, ai_sn, ai_sm, ai_sv_e, ai_sv_n, reduceIte, or_false, false_or, or_true, true_or, or_self, and_true, true_and, and_false, false_and, not_true_eq_false, not_false_eq_true, v1, n1]
end TK
