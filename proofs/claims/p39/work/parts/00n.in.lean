/-! a cabinet read as four lists of marks -/
def qFs (a : AS) (x : Int32) : Int32 := ai a 0 x.toNatClampNeg
def qSc (a : AS) (x : Int32) : Int32 := ai a 1 x.toNatClampNeg
def qWf (a : AS) (w : Nat) (x : Int32) : Int32 := if w = 0 then qFs a x else if w = 1 then qSc a x else x
theorem qWf0 (a : AS) (x : Int32) : qWf a 0 x = qFs a x := rfl
theorem qWf1 (a : AS) (x : Int32) : qWf a 1 x = qSc a x := rfl
theorem qWf2 (a : AS) (x : Int32) : qWf a 2 x = x := rfl
theorem ky0q (a : AS) (x : Int32) : ky a 0 x = (qFs a x).toInt := rfl
abbrev QR : Type := Nat → List Int32
def qRs (R : QR) (r : Nat) (L : List Int32) : QR := fun i => if i = r then L else R i
theorem qRs_e (R : QR) (L : List Int32) {r i : Nat} (h : i = r) : qRs R r L i = L := if_pos h
theorem qRs_n (R : QR) (L : List Int32) {r i : Nat} (h : i ≠ r) : qRs R r L i = R i := if_neg h
/-- the lists: 0 to 3 the rows, 4 to 7 what is kept of them, in 8 the numbers of those that are kept -/
def qIN (a : AS) (R : QR) (σ : St) : Prop := an a 0 ≤ 20000 ∧ CD a σ ∧ (∀ r, r < 8 → (R r).length ≤ 800 ∧ vl a (R r) ∧ cR (16 + r) (R r) σ) ∧ (∃ m m', SO σ m m') ∧ (∀ j, 24 ≤ j → j < 26 → ∃ s, s ≤ 800 ∧ gi σ (8 * j + 1) = nI s) ∧ ∀ r, r < 4 → nI r ∈ R 8 → gr σ 6 r = 1
section QI
variable {a : AS} {R : QR} {σ σ' : St}
theorem qIN.m (h : qIN a R σ) : an a 0 ≤ 20000 := h.1
theorem qIN.cd (h : qIN a R σ) : CD a σ := h.2.1
theorem qIN.so (h : qIN a R σ) : ∃ m m', SO σ m m' := h.2.2.2.1
theorem qIN.len8 (h : qIN a R σ) {r : Nat} (hr : r < 8) : (R r).length ≤ 800 := (h.2.2.1 r hr).1
theorem qIN.vl8 (h : qIN a R σ) {r : Nat} (hr : r < 8) : vl a (R r) := (h.2.2.1 r hr).2.1
theorem qIN.cr8 (h : qIN a R σ) {r : Nat} (hr : r < 8) : cR (16 + r) (R r) σ := (h.2.2.1 r hr).2.2
theorem qIN.len (h : qIN a R σ) {r : Nat} (hr : r < 4) : (R r).length ≤ 800 := h.len8 (Nat.lt_of_lt_of_le hr (by decide))
theorem qIN.vl (h : qIN a R σ) {r : Nat} (hr : r < 4) : vl a (R r) := h.vl8 (Nat.lt_of_lt_of_le hr (by decide))
theorem qIN.cr (h : qIN a R σ) {r : Nat} (hr : r < 4) : cR (16 + r) (R r) σ := h.cr8 (Nat.lt_of_lt_of_le hr (by decide))
theorem qIN.sz (h : qIN a R σ) {r : Nat} (hr : r < 4) : gi σ (8 * (16 + r) + 1) = nI (R r).length := (h.cr hr).1
theorem qIN.sg (h : qIN a R σ) {r : Nat} (hr : r < 4) : seg (gr σ (16 + r + 16)) 0 (R r).length = R r := (h.cr hr).2
theorem qIN.at (h : qIN a R σ) {r : Nat} (hr : r < 4) {k : Nat} (hk : k < (R r).length) : (R r)[k]? = some (gr σ (16 + r + 16) k) := seg_of (h.sg hr) hk
theorem qIN.mk (h : qIN a R σ) {r : Nat} (hr : r < 4) {k : Nat} (hk : k < (R r).length) : ∃ i, i < an a 0 ∧ gr σ (16 + r + 16) k = nI i := h.vl hr _ (List.mem_of_getElem? (h.at hr hk))
theorem qIN.gt (h : qIN a R σ) {r : Nat} (hr : r < 4) {k : Nat} {x : Int32} (hx : (R r)[k]? = some x) : k < (R r).length ∧ gr σ (16 + r + 16) k = x := by
  have hk : k < (R r).length := (List.getElem?_eq_some_iff.mp hx).1
  have e := h.at hr hk
  rw [hx] at e
  exact ⟨hk, (Option.some.inj e).symm⟩
theorem f1_eq (hC : CD a σ) (hm : an a 0 ≤ 20000) {x : Int32} (hx : ∃ i, i < an a 0 ∧ x = nI i) : f_X1_firstOf x σ = some (qFs a x) := by
  obtain ⟨i, hi, rfl⟩ := hx
  rw [hC.first hm hi]
  unfold qFs
  rw [nq_clamp (by omega)]
theorem f2_eq (hC : CD a σ) (hm : an a 0 ≤ 20000) {x : Int32} (hx : ∃ i, i < an a 0 ∧ x = nI i) : f_X1_secondOf x σ = some (qSc a x) := by
  obtain ⟨i, hi, rfl⟩ := hx
  rw [hC.second hm hi]
  unfold qSc
  rw [nq_clamp (by omega)]
/-- one row gets another list -/
theorem qIN.set8 (h : qIN a R σ) {r : Nat} (hr : r < 8) {L : List Int32} (hL : L.length ≤ 800) (hv : (∀ x, x ∈ L → ∃ i, i < an a 0 ∧ x = nI i)) (hc : cR (16 + r) L σ') (g1 : ∀ k, k ≠ 59 → k ≠ 8 * (16 + r) + 1 → gi σ' k = gi σ k) (g2 : ∀ i, i ≠ 8 → i ≠ 9 → i ≠ 16 + r + 16 → gr σ' i = gr σ i) (g3 : ∃ m m', SO σ' m m') : qIN a (qRs R r L) σ' := by
  refine ⟨h.1, h.cd.fr (g1 10 (by decide) (by omega)) (g2 2 (by decide) (by decide) (by omega)) (g2 3 (by decide) (by decide) (by omega)), fun r' hr' => ?_, g3, fun j h1 h2 => ?_, fun r' hr' hf => ?_⟩
  · by_cases e : r' = r
    · rw [qRs_e _ _ e]; subst e; exact ⟨hL, hv, hc⟩
    · rw [qRs_n _ _ e]
      obtain ⟨q1, q2, q3, q4⟩ := h.2.2.1 r' hr'
      exact ⟨q1, q2, by rw [g1 _ (by omega) (by omega)]; exact q3, by rw [g2 _ (by omega) (by omega) (by omega)]; exact q4⟩
  · rw [g1 _ (by omega) (by omega)]; exact h.2.2.2.2.1 j h1 h2
  · rw [qRs_n _ _ (by omega)] at hf
    rw [g2 _ (by omega) (by omega) (by omega)]; exact h.2.2.2.2.2 r' hr' hf
theorem qIN.set (h : qIN a R σ) {r : Nat} (hr : r < 4) {L : List Int32} (hL : L.length ≤ 800) (hv : (∀ x, x ∈ L → ∃ i, i < an a 0 ∧ x = nI i)) (hc : cR (16 + r) L σ') (g1 : ∀ k, k ≠ 59 → k ≠ 8 * (16 + r) + 1 → gi σ' k = gi σ k) (g2 : ∀ i, i ≠ 8 → i ≠ 9 → i ≠ 16 + r + 16 → gr σ' i = gr σ i) (g3 : ∃ m m', SO σ' m m') : qIN a (qRs R r L) σ' :=
  h.set8 (Nat.lt_of_lt_of_le hr (by decide)) hL hv hc g1 g2 g3
theorem qIN.wr8 (h : qIN a R σ) {r : Nat} (hr : r < 8) {L : List Int32} {F : Nat → Int32} (hL : L.length ≤ 800) (hv : (∀ x, x ∈ L → ∃ i, i < an a 0 ∧ x = nI i)) (hF : seg F 0 L.length = L) : qIN a (qRs R r L) (si (sr σ (16 + r + 16) F) (8 * (16 + r) + 1) (nI L.length)) := by
  refine h.set8 hr hL hv ⟨gi_si_e _ _ rfl, ?_⟩ (fun k h1 h2 => ?_) (fun i h1 h2 h3 => ?_) h.so
  · rw [gr_si, gr_sr_e _ _ rfl]; exact hF
  · rw [gi_si_n _ _ h2]; rfl
  · rw [gr_si, gr_sr_n _ _ h3]
theorem qIN.wr (h : qIN a R σ) {r : Nat} (hr : r < 4) {L : List Int32} {F : Nat → Int32} (hL : L.length ≤ 800) (hv : (∀ x, x ∈ L → ∃ i, i < an a 0 ∧ x = nI i)) (hF : seg F 0 L.length = L) : qIN a (qRs R r L) (si (sr σ (16 + r + 16) F) (8 * (16 + r) + 1) (nI L.length)) :=
  h.wr8 (Nat.lt_of_lt_of_le hr (by decide)) hL hv hF
theorem qRs_id (R : QR) (r : Nat) : qRs R r (R r) = R := by
  funext i
  unfold qRs
  by_cases e : i = r
  · rw [if_pos e, e]
  · rw [if_neg e]
theorem qRs_qRs (R : QR) (r : Nat) (L L' : List Int32) : qRs (qRs R r L) r L' = qRs R r L' := by
  funext i
  unfold qRs
  by_cases e : i = r
  · rw [if_pos e, if_pos e]
  · rw [if_neg e, if_neg e, if_neg e]
theorem row_no {x : Int32} (hx : x = nI 4) : f_X10_rowAt x σ = some (.inl zI) := by
  subst hx
  unfold f_X10_rowAt
  simp (disch := omega) only [↓bnd_s, ↓bnd2_s, ↓bnd3_s, ↓bnd4_s, ↓bnd5_s, ↓bndR_l, ↓bndR_r, ↓bndX_l, ↓bndX_r, ↓bndQ_s, ↓bndQ2_s, bndQ_s, bndQ2_s, bnd_s, bnd2_s, bnd3_s, bnd4_s, bnd5_s, bndR_l, bndR_r, bndX_l, bndX_r, nq_lt, nq_le, nq_inj, nq_add, nq_mul, nq_sub, nq_div, nq_neg1, nq_clamp, nq_ne1, nq_le1, ne1_lt, n1_lt0, n1_lt, n1_ne, nz0, nz1, nz2, nz3, nz4, nz5, nz6, nz8, nz10, nz31, nz32, nz50, nz400, nz800, nz3200, nz20000, nlt_f, nlt_t, nle_f, nle_t, neq_f, neq_t, gi_si_e, gi_si_n, gp_sp_e, gp_sp_n, gr_sr_e, gr_sr_n, gi_sp, gi_sr, gp_si, gp_sr, gr_si, gr_sp, upd_e, upd_n, un_e, un_n, an_sn_e, an_sn_n, an_sm, an_sv, am_sn, am_sm_e, am_sm_n, am_sv, ai_sn, ai_sm, ai_sv_e, ai_sv_n, reduceIte, or_false, false_or, or_true, true_or, or_self, and_true, true_and, and_false, false_and, not_true_eq_false, not_false_eq_true]; rfl
/-- what is asked and changes nothing -/
theorem E_count (h : qIN a R σ) {r : Nat} (hr : r < 4) : f_X10_count (nI r) σ = some (.inr (nI (R r).length)) := by
  unfold f_X10_count
  rw [rowAt_ok hr, bndX_r, h.sz hr]
theorem E_cardAt (h : qIN a R σ) {r : Nat} (hr : r < 4) {k w : Nat} {x : Int32} (hx : (R r)[k]? = some x) (hw : w < 3) : f_X10_cardAt (nI r) (nI k) (nI w) σ = some (.inr (qWf a w x)) := by
  have hn := h.len hr
  obtain ⟨hk, e⟩ := h.gt hr hx
  have hz := h.mk hr hk
  rw [e] at hz
  have e1 := f1_eq h.cd h.m hz
  have e2 := f2_eq h.cd h.m hz
  unfold f_X10_cardAt f_X10_needPlace
  rw [rowAt_ok hr, bndX_r]
  rcases (show w = 0 ∨ w = 1 ∨ w = 2 by omega) with rfl | rfl | rfl
  · rw [qWf0]; simp (disch := omega) only [↓bnd_s, ↓bnd2_s, ↓bnd3_s, ↓bnd4_s, ↓bnd5_s, ↓bndR_l, ↓bndR_r, ↓bndX_l, ↓bndX_r, ↓bndQ_s, ↓bndQ2_s, bndQ_s, bndQ2_s, bnd_s, bnd2_s, bnd3_s, bnd4_s, bnd5_s, bndR_l, bndR_r, bndX_l, bndX_r, nq_lt, nq_le, nq_inj, nq_add, nq_mul, nq_sub, nq_div, nq_neg1, nq_clamp, nq_ne1, nq_le1, ne1_lt, n1_lt0, n1_lt, n1_ne, nz0, nz1, nz2, nz3, nz4, nz5, nz6, nz8, nz10, nz31, nz32, nz50, nz400, nz800, nz3200, nz20000, nlt_f, nlt_t, nle_f, nle_t, neq_f, neq_t, gi_si_e, gi_si_n, gp_sp_e, gp_sp_n, gr_sr_e, gr_sr_n, gi_sp, gi_sr, gp_si, gp_sr, gr_si, gr_sp, upd_e, upd_n, un_e, un_n, an_sn_e, an_sn_n, an_sm, an_sv, am_sn, am_sm_e, am_sm_n, am_sv, ai_sn, ai_sm, ai_sv_e, ai_sv_n, reduceIte, or_false, false_or, or_true, true_or, or_self, and_true, true_and, and_false, false_and, not_true_eq_false, not_false_eq_true, h.sz hr, e, e1]
  · rw [qWf1]; simp (disch := omega) only [↓bnd_s, ↓bnd2_s, ↓bnd3_s, ↓bnd4_s, ↓bnd5_s, ↓bndR_l, ↓bndR_r, ↓bndX_l, ↓bndX_r, ↓bndQ_s, ↓bndQ2_s, bndQ_s, bndQ2_s, bnd_s, bnd2_s, bnd3_s, bnd4_s, bnd5_s, bndR_l, bndR_r, bndX_l, bndX_r, nq_lt, nq_le, nq_inj, nq_add, nq_mul, nq_sub, nq_div, nq_neg1, nq_clamp, nq_ne1, nq_le1, ne1_lt, n1_lt0, n1_lt, n1_ne, nz0, nz1, nz2, nz3, nz4, nz5, nz6, nz8, nz10, nz31, nz32, nz50, nz400, nz800, nz3200, nz20000, nlt_f, nlt_t, nle_f, nle_t, neq_f, neq_t, gi_si_e, gi_si_n, gp_sp_e, gp_sp_n, gr_sr_e, gr_sr_n, gi_sp, gi_sr, gp_si, gp_sr, gr_si, gr_sp, upd_e, upd_n, un_e, un_n, an_sn_e, an_sn_n, an_sm, an_sv, am_sn, am_sm_e, am_sm_n, am_sv, ai_sn, ai_sm, ai_sv_e, ai_sv_n, reduceIte, or_false, false_or, or_true, true_or, or_self, and_true, true_and, and_false, false_and, not_true_eq_false, not_false_eq_true, h.sz hr, e, e2]
  · rw [qWf2]; simp (disch := omega) only [↓bnd_s, ↓bnd2_s, ↓bnd3_s, ↓bnd4_s, ↓bnd5_s, ↓bndR_l, ↓bndR_r, ↓bndX_l, ↓bndX_r, ↓bndQ_s, ↓bndQ2_s, bndQ_s, bndQ2_s, bnd_s, bnd2_s, bnd3_s, bnd4_s, bnd5_s, bndR_l, bndR_r, bndX_l, bndX_r, nq_lt, nq_le, nq_inj, nq_add, nq_mul, nq_sub, nq_div, nq_neg1, nq_clamp, nq_ne1, nq_le1, ne1_lt, n1_lt0, n1_lt, n1_ne, nz0, nz1, nz2, nz3, nz4, nz5, nz6, nz8, nz10, nz31, nz32, nz50, nz400, nz800, nz3200, nz20000, nlt_f, nlt_t, nle_f, nle_t, neq_f, neq_t, gi_si_e, gi_si_n, gp_sp_e, gp_sp_n, gr_sr_e, gr_sr_n, gi_sp, gi_sr, gp_si, gp_sr, gr_si, gr_sp, upd_e, upd_n, un_e, un_n, an_sn_e, an_sn_n, an_sm, an_sv, am_sn, am_sm_e, am_sm_n, am_sv, ai_sn, ai_sm, ai_sv_e, ai_sv_n, reduceIte, or_false, false_or, or_true, true_or, or_self, and_true, true_and, and_false, false_and, not_true_eq_false, not_false_eq_true, h.sz hr, e]
theorem E_cardAt_no (h : qIN a R σ) {r : Nat} (hr : r < 4) : f_X10_cardAt (nI r) (nI (R r).length) (nI 0) σ = some (.inl zI) := by
  have hn := h.len hr
  unfold f_X10_cardAt f_X10_needPlace
  rw [rowAt_ok hr, bndX_r]
  simp (disch := omega) only [↓bnd_s, ↓bnd2_s, ↓bnd3_s, ↓bnd4_s, ↓bnd5_s, ↓bndR_l, ↓bndR_r, ↓bndX_l, ↓bndX_r, ↓bndQ_s, ↓bndQ2_s, bndQ_s, bndQ2_s, bnd_s, bnd2_s, bnd3_s, bnd4_s, bnd5_s, bndR_l, bndR_r, bndX_l, bndX_r, nq_lt, nq_le, nq_inj, nq_add, nq_mul, nq_sub, nq_div, nq_neg1, nq_clamp, nq_ne1, nq_le1, ne1_lt, n1_lt0, n1_lt, n1_ne, nz0, nz1, nz2, nz3, nz4, nz5, nz6, nz8, nz10, nz31, nz32, nz50, nz400, nz800, nz3200, nz20000, nlt_f, nlt_t, nle_f, nle_t, neq_f, neq_t, gi_si_e, gi_si_n, gp_sp_e, gp_sp_n, gr_sr_e, gr_sr_n, gi_sp, gi_sr, gp_si, gp_sr, gr_si, gr_sp, upd_e, upd_n, un_e, un_n, an_sn_e, an_sn_n, an_sm, an_sv, am_sn, am_sm_e, am_sm_n, am_sv, ai_sn, ai_sm, ai_sv_e, ai_sv_n, reduceIte, or_false, false_or, or_true, true_or, or_self, and_true, true_and, and_false, false_and, not_true_eq_false, not_false_eq_true, h.sz hr]; rfl
theorem E_firstAt (h : qIN a R σ) {r : Nat} (hr : r < 4) {k : Nat} (hk : k < (R r).length) : f_X10_firstAt (16 + r) (nI k) σ = some (qFs a (gr σ (16 + r + 16) k)) := by
  have hn := h.len hr
  have e1 := f1_eq h.cd h.m (h.mk hr hk)
  unfold f_X10_firstAt
  simp (disch := omega) only [↓bnd_s, ↓bnd2_s, ↓bnd3_s, ↓bnd4_s, ↓bnd5_s, ↓bndR_l, ↓bndR_r, ↓bndX_l, ↓bndX_r, ↓bndQ_s, ↓bndQ2_s, bndQ_s, bndQ2_s, bnd_s, bnd2_s, bnd3_s, bnd4_s, bnd5_s, bndR_l, bndR_r, bndX_l, bndX_r, nq_lt, nq_le, nq_inj, nq_add, nq_mul, nq_sub, nq_div, nq_neg1, nq_clamp, nq_ne1, nq_le1, ne1_lt, n1_lt0, n1_lt, n1_ne, nz0, nz1, nz2, nz3, nz4, nz5, nz6, nz8, nz10, nz31, nz32, nz50, nz400, nz800, nz3200, nz20000, nlt_f, nlt_t, nle_f, nle_t, neq_f, neq_t, gi_si_e, gi_si_n, gp_sp_e, gp_sp_n, gr_sr_e, gr_sr_n, gi_sp, gi_sr, gp_si, gp_sr, gr_si, gr_sp, upd_e, upd_n, un_e, un_n, an_sn_e, an_sn_n, an_sm, an_sv, am_sn, am_sm_e, am_sm_n, am_sv, ai_sn, ai_sm, ai_sv_e, ai_sv_n, reduceIte, or_false, false_or, or_true, true_or, or_self, and_true, true_and, and_false, false_and, not_true_eq_false, not_false_eq_true, e1]
theorem E_start0 (j : Nat) (σ : St) : f_X10_startsRun j (nI 0) σ = some (nI 1) := by
  unfold f_X10_startsRun
  simp (disch := omega) only [↓bnd_s, ↓bnd2_s, ↓bnd3_s, ↓bnd4_s, ↓bnd5_s, ↓bndR_l, ↓bndR_r, ↓bndX_l, ↓bndX_r, ↓bndQ_s, ↓bndQ2_s, bndQ_s, bndQ2_s, bnd_s, bnd2_s, bnd3_s, bnd4_s, bnd5_s, bndR_l, bndR_r, bndX_l, bndX_r, nq_lt, nq_le, nq_inj, nq_add, nq_mul, nq_sub, nq_div, nq_neg1, nq_clamp, nq_ne1, nq_le1, ne1_lt, n1_lt0, n1_lt, n1_ne, nz0, nz1, nz2, nz3, nz4, nz5, nz6, nz8, nz10, nz31, nz32, nz50, nz400, nz800, nz3200, nz20000, nlt_f, nlt_t, nle_f, nle_t, neq_f, neq_t, gi_si_e, gi_si_n, gp_sp_e, gp_sp_n, gr_sr_e, gr_sr_n, gi_sp, gi_sr, gp_si, gp_sr, gr_si, gr_sp, upd_e, upd_n, un_e, un_n, an_sn_e, an_sn_n, an_sm, an_sv, am_sn, am_sm_e, am_sm_n, am_sv, ai_sn, ai_sm, ai_sv_e, ai_sv_n, reduceIte, or_false, false_or, or_true, true_or, or_self, and_true, true_and, and_false, false_and, not_true_eq_false, not_false_eq_true]
theorem E_starts (h : qIN a R σ) {r : Nat} (hr : r < 4) {k : Nat} (hk : k + 1 < (R r).length) : f_X10_startsRun (16 + r) (nI (k + 1)) σ = some (if qFs a (gr σ (16 + r + 16) k) ≤ qFs a (gr σ (16 + r + 16) (k + 1)) then nI 0 else nI 1) := by
  have hn := h.len hr
  have c1 := E_firstAt h hr hk
  have c2 := E_firstAt h hr (show k < (R r).length by omega)
  unfold f_X10_startsRun
  by_cases e : qFs a (gr σ (16 + r + 16) k) ≤ qFs a (gr σ (16 + r + 16) (k + 1))
  · simp (disch := omega) only [↓bnd_s, ↓bnd2_s, ↓bnd3_s, ↓bnd4_s, ↓bnd5_s, ↓bndR_l, ↓bndR_r, ↓bndX_l, ↓bndX_r, ↓bndQ_s, ↓bndQ2_s, bndQ_s, bndQ2_s, bnd_s, bnd2_s, bnd3_s, bnd4_s, bnd5_s, bndR_l, bndR_r, bndX_l, bndX_r, nq_lt, nq_le, nq_inj, nq_add, nq_mul, nq_sub, nq_div, nq_neg1, nq_clamp, nq_ne1, nq_le1, ne1_lt, n1_lt0, n1_lt, n1_ne, nz0, nz1, nz2, nz3, nz4, nz5, nz6, nz8, nz10, nz31, nz32, nz50, nz400, nz800, nz3200, nz20000, nlt_f, nlt_t, nle_f, nle_t, neq_f, neq_t, gi_si_e, gi_si_n, gp_sp_e, gp_sp_n, gr_sr_e, gr_sr_n, gi_sp, gi_sr, gp_si, gp_sr, gr_si, gr_sp, upd_e, upd_n, un_e, un_n, an_sn_e, an_sn_n, an_sm, an_sv, am_sn, am_sm_e, am_sm_n, am_sv, ai_sn, ai_sm, ai_sv_e, ai_sv_n, reduceIte, or_false, false_or, or_true, true_or, or_self, and_true, true_and, and_false, false_and, not_true_eq_false, not_false_eq_true, c1, Nat.add_sub_cancel, c2, e]
  · simp (disch := omega) only [↓bnd_s, ↓bnd2_s, ↓bnd3_s, ↓bnd4_s, ↓bnd5_s, ↓bndR_l, ↓bndR_r, ↓bndX_l, ↓bndX_r, ↓bndQ_s, ↓bndQ2_s, bndQ_s, bndQ2_s, bnd_s, bnd2_s, bnd3_s, bnd4_s, bnd5_s, bndR_l, bndR_r, bndX_l, bndX_r, nq_lt, nq_le, nq_inj, nq_add, nq_mul, nq_sub, nq_div, nq_neg1, nq_clamp, nq_ne1, nq_le1, ne1_lt, n1_lt0, n1_lt, n1_ne, nz0, nz1, nz2, nz3, nz4, nz5, nz6, nz8, nz10, nz31, nz32, nz50, nz400, nz800, nz3200, nz20000, nlt_f, nlt_t, nle_f, nle_t, neq_f, neq_t, gi_si_e, gi_si_n, gp_sp_e, gp_sp_n, gr_sr_e, gr_sr_n, gi_sp, gi_sr, gp_si, gp_sr, gr_si, gr_sp, upd_e, upd_n, un_e, un_n, an_sn_e, an_sn_n, an_sm, an_sv, am_sn, am_sm_e, am_sm_n, am_sv, ai_sn, ai_sm, ai_sv_e, ai_sv_n, reduceIte, or_false, false_or, or_true, true_or, or_self, and_true, true_and, and_false, false_and, not_true_eq_false, not_false_eq_true, c1, Nat.add_sub_cancel, c2, e]
/-- the runs: one more than there are falls -/
theorem runs_C (h : qIN a R σ) {r : Nat} (hr : r < 4) : ∀ (d : Nat) {fu i c : Nat}, (R r).length - (i + 1) = d → d < fu → i + 1 ≤ (R r).length → c ≤ i + 1 →
    ∃ o, c ≤ o ∧ o ≤ 800 ∧ f_X10_numberOfRuns_L4 (16 + r) σ fu (nI c) (nI (i + 1)) = some (nI o) ∧ (o = c → ∀ k, i ≤ k → k + 1 < (R r).length → qFs a (gr σ (16 + r + 16) k) ≤ qFs a (gr σ (16 + r + 16) (k + 1))) := by
  have hn := h.len hr
  intro d
  induction d with
  | zero =>
    intro fu i c hd hf hi hc
    obtain ⟨fu, rfl⟩ : ∃ f, fu = f + 1 := ⟨fu - 1, by omega⟩
    refine ⟨c, Nat.le_refl _, by omega, ?_, fun _ k h1 h2 => by omega⟩
    unfold f_X10_numberOfRuns_L4; simp (disch := omega) only [↓bnd_s, ↓bnd2_s, ↓bnd3_s, ↓bnd4_s, ↓bnd5_s, ↓bndR_l, ↓bndR_r, ↓bndX_l, ↓bndX_r, ↓bndQ_s, ↓bndQ2_s, bndQ_s, bndQ2_s, bnd_s, bnd2_s, bnd3_s, bnd4_s, bnd5_s, bndR_l, bndR_r, bndX_l, bndX_r, nq_lt, nq_le, nq_inj, nq_add, nq_mul, nq_sub, nq_div, nq_neg1, nq_clamp, nq_ne1, nq_le1, ne1_lt, n1_lt0, n1_lt, n1_ne, nz0, nz1, nz2, nz3, nz4, nz5, nz6, nz8, nz10, nz31, nz32, nz50, nz400, nz800, nz3200, nz20000, nlt_f, nlt_t, nle_f, nle_t, neq_f, neq_t, gi_si_e, gi_si_n, gp_sp_e, gp_sp_n, gr_sr_e, gr_sr_n, gi_sp, gi_sr, gp_si, gp_sr, gr_si, gr_sp, upd_e, upd_n, un_e, un_n, an_sn_e, an_sn_n, an_sm, an_sv, am_sn, am_sm_e, am_sm_n, am_sv, ai_sn, ai_sm, ai_sv_e, ai_sv_n, reduceIte, or_false, false_or, or_true, true_or, or_self, and_true, true_and, and_false, false_and, not_true_eq_false, not_false_eq_true, h.sz hr]
  | succ d ih =>
    intro fu i c hd hf hi hc
    obtain ⟨fu, rfl⟩ : ∃ f, fu = f + 1 := ⟨fu - 1, by omega⟩
    have e1 := E_starts h hr (k := i) (by omega)
    by_cases e : qFs a (gr σ (16 + r + 16) i) ≤ qFs a (gr σ (16 + r + 16) (i + 1))
    · rw [if_pos e] at e1
      obtain ⟨o, g0, g1, g2, g3⟩ := ih (fu := fu) (i := i + 1) (c := c) (by omega) (by omega) (by omega) (by omega)
      refine ⟨o, g0, g1, ?_, fun ho k h1 h2 => ?_⟩
      · unfold f_X10_numberOfRuns_L4; simp (disch := omega) only [↓bnd_s, ↓bnd2_s, ↓bnd3_s, ↓bnd4_s, ↓bnd5_s, ↓bndR_l, ↓bndR_r, ↓bndX_l, ↓bndX_r, ↓bndQ_s, ↓bndQ2_s, bndQ_s, bndQ2_s, bnd_s, bnd2_s, bnd3_s, bnd4_s, bnd5_s, bndR_l, bndR_r, bndX_l, bndX_r, nq_lt, nq_le, nq_inj, nq_add, nq_mul, nq_sub, nq_div, nq_neg1, nq_clamp, nq_ne1, nq_le1, ne1_lt, n1_lt0, n1_lt, n1_ne, nz0, nz1, nz2, nz3, nz4, nz5, nz6, nz8, nz10, nz31, nz32, nz50, nz400, nz800, nz3200, nz20000, nlt_f, nlt_t, nle_f, nle_t, neq_f, neq_t, gi_si_e, gi_si_n, gp_sp_e, gp_sp_n, gr_sr_e, gr_sr_n, gi_sp, gi_sr, gp_si, gp_sr, gr_si, gr_sp, upd_e, upd_n, un_e, un_n, an_sn_e, an_sn_n, an_sm, an_sv, am_sn, am_sm_e, am_sm_n, am_sv, ai_sn, ai_sm, ai_sv_e, ai_sv_n, reduceIte, or_false, false_or, or_true, true_or, or_self, and_true, true_and, and_false, false_and, not_true_eq_false, not_false_eq_true, h.sz hr, e1]; exact g2
      · by_cases hk : k = i
        · rw [hk]; exact e
        · exact g3 ho k (by omega) h2
    · rw [if_neg e] at e1
      obtain ⟨o, g0, g1, g2, g3⟩ := ih (fu := fu) (i := i + 1) (c := c + 1) (by omega) (by omega) (by omega) (by omega)
      refine ⟨o, by omega, g1, ?_, fun ho => by omega⟩
      unfold f_X10_numberOfRuns_L4; simp (disch := omega) only [↓bnd_s, ↓bnd2_s, ↓bnd3_s, ↓bnd4_s, ↓bnd5_s, ↓bndR_l, ↓bndR_r, ↓bndX_l, ↓bndX_r, ↓bndQ_s, ↓bndQ2_s, bndQ_s, bndQ2_s, bnd_s, bnd2_s, bnd3_s, bnd4_s, bnd5_s, bndR_l, bndR_r, bndX_l, bndX_r, nq_lt, nq_le, nq_inj, nq_add, nq_mul, nq_sub, nq_div, nq_neg1, nq_clamp, nq_ne1, nq_le1, ne1_lt, n1_lt0, n1_lt, n1_ne, nz0, nz1, nz2, nz3, nz4, nz5, nz6, nz8, nz10, nz31, nz32, nz50, nz400, nz800, nz3200, nz20000, nlt_f, nlt_t, nle_f, nle_t, neq_f, neq_t, gi_si_e, gi_si_n, gp_sp_e, gp_sp_n, gr_sr_e, gr_sr_n, gi_sp, gi_sr, gp_si, gp_sr, gr_si, gr_sp, upd_e, upd_n, un_e, un_n, an_sn_e, an_sn_n, an_sm, an_sv, am_sn, am_sm_e, am_sm_n, am_sv, ai_sn, ai_sm, ai_sv_e, ai_sv_n, reduceIte, or_false, false_or, or_true, true_or, or_self, and_true, true_and, and_false, false_and, not_true_eq_false, not_false_eq_true, h.sz hr, e1]; exact g2
theorem mono_le {F : Nat → Int32} {n : Nat} (h : ∀ k, k + 1 < n → F k ≤ F (k + 1)) : ∀ (d i : Nat), i + d < n → F i ≤ F (i + d)
  | 0, i, _ => Int32.le_refl _
  | d + 1, i, hd => Int32.le_trans (mono_le h d i (by omega)) (h (i + d) (by omega))
theorem sorted_of (h : qIN a R σ) {r : Nat} (hr : r < 4) (hs : ∀ k, k + 1 < (R r).length → qFs a (gr σ (16 + r + 16) k) ≤ qFs a (gr σ (16 + r + 16) (k + 1))) : sortedK (ky a 0) (R r) := by
  refine List.pairwise_iff_getElem.mpr fun i j hi hj hij => ?_
  have e1 := h.at hr hi
  have e2 := h.at hr hj
  rw [List.getElem?_eq_getElem hi] at e1
  rw [List.getElem?_eq_getElem hj] at e2
  rw [Option.some.inj e1, Option.some.inj e2, ky0q, ky0q]
  have := mono_le (F := fun k => qFs a (gr σ (16 + r + 16) k)) hs (j - i) i (by omega)
  rw [show i + (j - i) = j by omega] at this
  exact Int32.le_iff_toInt_le.mp this
theorem E_nruns (h : qIN a R σ) {r : Nat} (hr : r < 4) : ∃ o, o ≤ 800 ∧ f_X10_numberOfRuns (16 + r) σ = some (nI o) ∧ (o ≤ 1 ↔ sortedK (ky a 0) (R r)) ∧ (o = 0 → (R r).length = 0) := by
  have hn := h.len hr
  by_cases hz : (R r).length = 0
  · refine ⟨0, by omega, ?_, ⟨fun _ => ?_, fun _ => by omega⟩, fun _ => hz⟩
    · unfold f_X10_numberOfRuns f_X10_numberOfRuns_L4 FU; simp (disch := omega) only [↓bnd_s, ↓bnd2_s, ↓bnd3_s, ↓bnd4_s, ↓bnd5_s, ↓bndR_l, ↓bndR_r, ↓bndX_l, ↓bndX_r, ↓bndQ_s, ↓bndQ2_s, bndQ_s, bndQ2_s, bnd_s, bnd2_s, bnd3_s, bnd4_s, bnd5_s, bndR_l, bndR_r, bndX_l, bndX_r, nq_lt, nq_le, nq_inj, nq_add, nq_mul, nq_sub, nq_div, nq_neg1, nq_clamp, nq_ne1, nq_le1, ne1_lt, n1_lt0, n1_lt, n1_ne, nz0, nz1, nz2, nz3, nz4, nz5, nz6, nz8, nz10, nz31, nz32, nz50, nz400, nz800, nz3200, nz20000, nlt_f, nlt_t, nle_f, nle_t, neq_f, neq_t, gi_si_e, gi_si_n, gp_sp_e, gp_sp_n, gr_sr_e, gr_sr_n, gi_sp, gi_sr, gp_si, gp_sr, gr_si, gr_sp, upd_e, upd_n, un_e, un_n, an_sn_e, an_sn_n, an_sm, an_sv, am_sn, am_sm_e, am_sm_n, am_sv, ai_sn, ai_sm, ai_sv_e, ai_sv_n, reduceIte, or_false, false_or, or_true, true_or, or_self, and_true, true_and, and_false, false_and, not_true_eq_false, not_false_eq_true, h.sz hr, hz]
    · rw [List.eq_nil_of_length_eq_zero hz]; exact List.Pairwise.nil
  · obtain ⟨o, g0, g1, g2, g3⟩ := runs_C h hr _ (fu := 3999) (i := 0) (c := 1) rfl (by omega) (by omega) (by omega)
    rw [Nat.zero_add] at g2
    have e0 := E_start0 (16 + r) σ
    refine ⟨o, g1, ?_, ⟨fun ho => sorted_of h hr fun k hk => g3 (by omega) k (Nat.zero_le _) hk, fun hs => ?_⟩, fun ho => by omega⟩
    · unfold f_X10_numberOfRuns FU; unfold f_X10_numberOfRuns_L4; simp (disch := omega) only [↓bnd_s, ↓bnd2_s, ↓bnd3_s, ↓bnd4_s, ↓bnd5_s, ↓bndR_l, ↓bndR_r, ↓bndX_l, ↓bndX_r, ↓bndQ_s, ↓bndQ2_s, bndQ_s, bndQ2_s, bnd_s, bnd2_s, bnd3_s, bnd4_s, bnd5_s, bndR_l, bndR_r, bndX_l, bndX_r, nq_lt, nq_le, nq_inj, nq_add, nq_mul, nq_sub, nq_div, nq_neg1, nq_clamp, nq_ne1, nq_le1, ne1_lt, n1_lt0, n1_lt, n1_ne, nz0, nz1, nz2, nz3, nz4, nz5, nz6, nz8, nz10, nz31, nz32, nz50, nz400, nz800, nz3200, nz20000, nlt_f, nlt_t, nle_f, nle_t, neq_f, neq_t, gi_si_e, gi_si_n, gp_sp_e, gp_sp_n, gr_sr_e, gr_sr_n, gi_sp, gi_sr, gp_si, gp_sr, gr_si, gr_sp, upd_e, upd_n, un_e, un_n, an_sn_e, an_sn_n, an_sm, an_sv, am_sn, am_sm_e, am_sm_n, am_sv, ai_sn, ai_sm, ai_sv_e, ai_sv_n, reduceIte, or_false, false_or, or_true, true_or, or_self, and_true, true_and, and_false, false_and, not_true_eq_false, not_false_eq_true, h.sz hr, e0, Nat.zero_add, g2]
    · have g := runs_s h.m hn (h.vl hr) h.cd (h.cr hr) hs _ (fu := 3999) (i := 0) rfl (by omega) (by omega)
      rw [Nat.zero_add, g2] at g
      have := (nq_inj (by omega) (by omega)).mp (Option.some.inj g)
      omega
theorem E_rises (h : qIN a R σ) {r : Nat} (hr : r < 4) : ∃ o, o ≤ 800 ∧ f_X10_numberOfRuns (16 + r) σ = some (nI o) ∧ f_X10_rises (16 + r) σ = some (if o ≤ 1 then nI 1 else nI 0) ∧ (o ≤ 1 ↔ sortedK (ky a 0) (R r)) ∧ (o = 0 → (R r).length = 0) := by
  obtain ⟨o, h1, h2, h3, h4⟩ := E_nruns h hr
  refine ⟨o, h1, h2, ?_, h3, h4⟩
  unfold f_X10_rises
  by_cases e : o ≤ 1
  · simp (disch := omega) only [↓bnd_s, ↓bnd2_s, ↓bnd3_s, ↓bnd4_s, ↓bnd5_s, ↓bndR_l, ↓bndR_r, ↓bndX_l, ↓bndX_r, ↓bndQ_s, ↓bndQ2_s, bndQ_s, bndQ2_s, bnd_s, bnd2_s, bnd3_s, bnd4_s, bnd5_s, bndR_l, bndR_r, bndX_l, bndX_r, nq_lt, nq_le, nq_inj, nq_add, nq_mul, nq_sub, nq_div, nq_neg1, nq_clamp, nq_ne1, nq_le1, ne1_lt, n1_lt0, n1_lt, n1_ne, nz0, nz1, nz2, nz3, nz4, nz5, nz6, nz8, nz10, nz31, nz32, nz50, nz400, nz800, nz3200, nz20000, nlt_f, nlt_t, nle_f, nle_t, neq_f, neq_t, gi_si_e, gi_si_n, gp_sp_e, gp_sp_n, gr_sr_e, gr_sr_n, gi_sp, gi_sr, gp_si, gp_sr, gr_si, gr_sp, upd_e, upd_n, un_e, un_n, an_sn_e, an_sn_n, an_sm, an_sv, am_sn, am_sm_e, am_sm_n, am_sv, ai_sn, ai_sm, ai_sv_e, ai_sv_n, reduceIte, or_false, false_or, or_true, true_or, or_self, and_true, true_and, and_false, false_and, not_true_eq_false, not_false_eq_true, h2, e]
  · simp (disch := omega) only [↓bnd_s, ↓bnd2_s, ↓bnd3_s, ↓bnd4_s, ↓bnd5_s, ↓bndR_l, ↓bndR_r, ↓bndX_l, ↓bndX_r, ↓bndQ_s, ↓bndQ2_s, bndQ_s, bndQ2_s, bnd_s, bnd2_s, bnd3_s, bnd4_s, bnd5_s, bndR_l, bndR_r, bndX_l, bndX_r, nq_lt, nq_le, nq_inj, nq_add, nq_mul, nq_sub, nq_div, nq_neg1, nq_clamp, nq_ne1, nq_le1, ne1_lt, n1_lt0, n1_lt, n1_ne, nz0, nz1, nz2, nz3, nz4, nz5, nz6, nz8, nz10, nz31, nz32, nz50, nz400, nz800, nz3200, nz20000, nlt_f, nlt_t, nle_f, nle_t, neq_f, neq_t, gi_si_e, gi_si_n, gp_sp_e, gp_sp_n, gr_sr_e, gr_sr_n, gi_sp, gi_sr, gp_si, gp_sr, gr_si, gr_sp, upd_e, upd_n, un_e, un_n, an_sn_e, an_sn_n, an_sm, an_sv, am_sn, am_sm_e, am_sm_n, am_sv, ai_sn, ai_sm, ai_sv_e, ai_sv_n, reduceIte, or_false, false_or, or_true, true_or, or_self, and_true, true_and, and_false, false_and, not_true_eq_false, not_false_eq_true, h2, e]
theorem E_isSorted (h : qIN a R σ) {r : Nat} (hr : r < 4) : ∃ o, o ≤ 800 ∧ f_X10_isSorted (nI r) σ = some (.inr (if o ≤ 1 then nI 1 else nI 0)) ∧ f_X10_runs (nI r) σ = some (.inr (nI o)) ∧ (o ≤ 1 ↔ sortedK (ky a 0) (R r)) ∧ (o = 0 → (R r).length = 0) := by
  obtain ⟨o, h1, h2, h3, h4, h5⟩ := E_rises h hr
  refine ⟨o, h1, ?_, ?_, h4, h5⟩
  · unfold f_X10_isSorted
    rw [rowAt_ok hr, bndX_r, h3]
    by_cases e : o ≤ 1
    · simp (disch := omega) only [↓bnd_s, ↓bnd2_s, ↓bnd3_s, ↓bnd4_s, ↓bnd5_s, ↓bndR_l, ↓bndR_r, ↓bndX_l, ↓bndX_r, ↓bndQ_s, ↓bndQ2_s, bndQ_s, bndQ2_s, bnd_s, bnd2_s, bnd3_s, bnd4_s, bnd5_s, bndR_l, bndR_r, bndX_l, bndX_r, nq_lt, nq_le, nq_inj, nq_add, nq_mul, nq_sub, nq_div, nq_neg1, nq_clamp, nq_ne1, nq_le1, ne1_lt, n1_lt0, n1_lt, n1_ne, nz0, nz1, nz2, nz3, nz4, nz5, nz6, nz8, nz10, nz31, nz32, nz50, nz400, nz800, nz3200, nz20000, nlt_f, nlt_t, nle_f, nle_t, neq_f, neq_t, gi_si_e, gi_si_n, gp_sp_e, gp_sp_n, gr_sr_e, gr_sr_n, gi_sp, gi_sr, gp_si, gp_sr, gr_si, gr_sp, upd_e, upd_n, un_e, un_n, an_sn_e, an_sn_n, an_sm, an_sv, am_sn, am_sm_e, am_sm_n, am_sv, ai_sn, ai_sm, ai_sv_e, ai_sv_n, reduceIte, or_false, false_or, or_true, true_or, or_self, and_true, true_and, and_false, false_and, not_true_eq_false, not_false_eq_true, e]
    · simp (disch := omega) only [↓bnd_s, ↓bnd2_s, ↓bnd3_s, ↓bnd4_s, ↓bnd5_s, ↓bndR_l, ↓bndR_r, ↓bndX_l, ↓bndX_r, ↓bndQ_s, ↓bndQ2_s, bndQ_s, bndQ2_s, bnd_s, bnd2_s, bnd3_s, bnd4_s, bnd5_s, bndR_l, bndR_r, bndX_l, bndX_r, nq_lt, nq_le, nq_inj, nq_add, nq_mul, nq_sub, nq_div, nq_neg1, nq_clamp, nq_ne1, nq_le1, ne1_lt, n1_lt0, n1_lt, n1_ne, nz0, nz1, nz2, nz3, nz4, nz5, nz6, nz8, nz10, nz31, nz32, nz50, nz400, nz800, nz3200, nz20000, nlt_f, nlt_t, nle_f, nle_t, neq_f, neq_t, gi_si_e, gi_si_n, gp_sp_e, gp_sp_n, gr_sr_e, gr_sr_n, gi_sp, gi_sr, gp_si, gp_sr, gr_si, gr_sp, upd_e, upd_n, un_e, un_n, an_sn_e, an_sn_n, an_sm, an_sv, am_sn, am_sm_e, am_sm_n, am_sv, ai_sn, ai_sm, ai_sv_e, ai_sv_n, reduceIte, or_false, false_or, or_true, true_or, or_self, and_true, true_and, and_false, false_and, not_true_eq_false, not_false_eq_true, e]
  · unfold f_X10_runs
    rw [rowAt_ok hr, bndX_r, h2]; rfl
theorem long_C (h : qIN a R σ) {r : Nat} (hr : r < 4) (hs : sortedK (ky a 0) (R r)) : ∀ (d : Nat) {fu i : Nat}, (R r).length - (i + 1) = d → d < fu → i + 1 ≤ (R r).length →
    f_X10_lengthOfLongestRun_L7 (16 + r) σ fu (nI (i + 1)) (nI 0) (nI (i + 1)) = some (nI (R r).length) := by
  have hn := h.len hr
  intro d
  induction d with
  | zero =>
    intro fu i hd hf hi
    obtain ⟨fu, rfl⟩ : ∃ f, fu = f + 1 := ⟨fu - 1, by omega⟩
    have e : i + 1 = (R r).length := by omega
    unfold f_X10_lengthOfLongestRun_L7; simp (disch := omega) only [↓bnd_s, ↓bnd2_s, ↓bnd3_s, ↓bnd4_s, ↓bnd5_s, ↓bndR_l, ↓bndR_r, ↓bndX_l, ↓bndX_r, ↓bndQ_s, ↓bndQ2_s, bndQ_s, bndQ2_s, bnd_s, bnd2_s, bnd3_s, bnd4_s, bnd5_s, bndR_l, bndR_r, bndX_l, bndX_r, nq_lt, nq_le, nq_inj, nq_add, nq_mul, nq_sub, nq_div, nq_neg1, nq_clamp, nq_ne1, nq_le1, ne1_lt, n1_lt0, n1_lt, n1_ne, nz0, nz1, nz2, nz3, nz4, nz5, nz6, nz8, nz10, nz31, nz32, nz50, nz400, nz800, nz3200, nz20000, nlt_f, nlt_t, nle_f, nle_t, neq_f, neq_t, gi_si_e, gi_si_n, gp_sp_e, gp_sp_n, gr_sr_e, gr_sr_n, gi_sp, gi_sr, gp_si, gp_sr, gr_si, gr_sp, upd_e, upd_n, un_e, un_n, an_sn_e, an_sn_n, an_sm, an_sv, am_sn, am_sm_e, am_sm_n, am_sv, ai_sn, ai_sm, ai_sv_e, ai_sv_n, reduceIte, or_false, false_or, or_true, true_or, or_self, and_true, true_and, and_false, false_and, not_true_eq_false, not_false_eq_true, h.sz hr, e]
  | succ d ih =>
    intro fu i hd hf hi
    obtain ⟨fu, rfl⟩ : ∃ f, fu = f + 1 := ⟨fu - 1, by omega⟩
    have := ih (fu := fu) (i := i + 1) (by omega) (by omega) (by omega)
    have e1 := starts_s h.m hn (h.vl hr) h.cd (h.cr hr) hs (k := i) (by omega)
    unfold f_X10_lengthOfLongestRun_L7; simp (disch := omega) only [↓bnd_s, ↓bnd2_s, ↓bnd3_s, ↓bnd4_s, ↓bnd5_s, ↓bndR_l, ↓bndR_r, ↓bndX_l, ↓bndX_r, ↓bndQ_s, ↓bndQ2_s, bndQ_s, bndQ2_s, bnd_s, bnd2_s, bnd3_s, bnd4_s, bnd5_s, bndR_l, bndR_r, bndX_l, bndX_r, nq_lt, nq_le, nq_inj, nq_add, nq_mul, nq_sub, nq_div, nq_neg1, nq_clamp, nq_ne1, nq_le1, ne1_lt, n1_lt0, n1_lt, n1_ne, nz0, nz1, nz2, nz3, nz4, nz5, nz6, nz8, nz10, nz31, nz32, nz50, nz400, nz800, nz3200, nz20000, nlt_f, nlt_t, nle_f, nle_t, neq_f, neq_t, gi_si_e, gi_si_n, gp_sp_e, gp_sp_n, gr_sr_e, gr_sr_n, gi_sp, gi_sr, gp_si, gp_sr, gr_si, gr_sp, upd_e, upd_n, un_e, un_n, an_sn_e, an_sn_n, an_sm, an_sv, am_sn, am_sm_e, am_sm_n, am_sv, ai_sn, ai_sm, ai_sv_e, ai_sv_n, reduceIte, or_false, false_or, or_true, true_or, or_self, and_true, true_and, and_false, false_and, not_true_eq_false, not_false_eq_true, h.sz hr, e1, Nat.sub_zero]; exact this
theorem E_longest (h : qIN a R σ) {r : Nat} (hr : r < 4) (hs : sortedK (ky a 0) (R r)) (hz : 0 < (R r).length) : f_X10_longestRun (nI r) σ = some (.inr (nI (R r).length)) := by
  have hn := h.len hr
  have g := long_C h hr hs _ (fu := 3999) (i := 0) rfl (by omega) (by omega)
  rw [Nat.zero_add] at g
  have e0 := E_start0 (16 + r) σ
  have e : f_X10_lengthOfLongestRun (16 + r) σ = some (nI (R r).length) := by
    unfold f_X10_lengthOfLongestRun FU; unfold f_X10_lengthOfLongestRun_L7; simp (disch := omega) only [↓bnd_s, ↓bnd2_s, ↓bnd3_s, ↓bnd4_s, ↓bnd5_s, ↓bndR_l, ↓bndR_r, ↓bndX_l, ↓bndX_r, ↓bndQ_s, ↓bndQ2_s, bndQ_s, bndQ2_s, bnd_s, bnd2_s, bnd3_s, bnd4_s, bnd5_s, bndR_l, bndR_r, bndX_l, bndX_r, nq_lt, nq_le, nq_inj, nq_add, nq_mul, nq_sub, nq_div, nq_neg1, nq_clamp, nq_ne1, nq_le1, ne1_lt, n1_lt0, n1_lt, n1_ne, nz0, nz1, nz2, nz3, nz4, nz5, nz6, nz8, nz10, nz31, nz32, nz50, nz400, nz800, nz3200, nz20000, nlt_f, nlt_t, nle_f, nle_t, neq_f, neq_t, gi_si_e, gi_si_n, gp_sp_e, gp_sp_n, gr_sr_e, gr_sr_n, gi_sp, gi_sr, gp_si, gp_sr, gr_si, gr_sp, upd_e, upd_n, un_e, un_n, an_sn_e, an_sn_n, an_sm, an_sv, am_sn, am_sm_e, am_sm_n, am_sv, ai_sn, ai_sm, ai_sv_e, ai_sv_n, reduceIte, or_false, false_or, or_true, true_or, or_self, and_true, true_and, and_false, false_and, not_true_eq_false, not_false_eq_true, h.sz hr, e0, Nat.zero_add, Nat.sub_zero, g]
  unfold f_X10_longestRun
  rw [rowAt_ok hr, bndX_r, e]; rfl
/-- the sum, as both take it -/
def sKq (f : Nat → Int32) : Nat → Nat → Int64 → Int64
  | 0, _, s => s
  | d + 1, i, s => sKq f d (i + 1) (s + ((nI i).toInt64 + (1 : Int64)) * ((f i).toInt64 + (1 : Int64)))
theorem sum_C (h : qIN a R σ) {r : Nat} (hr : r < 4) : ∀ (d : Nat) {fu i : Nat} {s : Int64}, (R r).length - i = d → d < fu → i ≤ (R r).length → f_X10_sum_L11 (16 + r) σ fu s (nI i) = some (sKq (gr σ (16 + r + 16)) d i s) := by
  have hn := h.len hr
  intro d
  induction d with
  | zero =>
    intro fu i s hd hf hi
    obtain ⟨fu, rfl⟩ : ∃ f, fu = f + 1 := ⟨fu - 1, by omega⟩
    unfold f_X10_sum_L11 sKq; simp (disch := omega) only [↓bnd_s, ↓bnd2_s, ↓bnd3_s, ↓bnd4_s, ↓bnd5_s, ↓bndR_l, ↓bndR_r, ↓bndX_l, ↓bndX_r, ↓bndQ_s, ↓bndQ2_s, bndQ_s, bndQ2_s, bnd_s, bnd2_s, bnd3_s, bnd4_s, bnd5_s, bndR_l, bndR_r, bndX_l, bndX_r, nq_lt, nq_le, nq_inj, nq_add, nq_mul, nq_sub, nq_div, nq_neg1, nq_clamp, nq_ne1, nq_le1, ne1_lt, n1_lt0, n1_lt, n1_ne, nz0, nz1, nz2, nz3, nz4, nz5, nz6, nz8, nz10, nz31, nz32, nz50, nz400, nz800, nz3200, nz20000, nlt_f, nlt_t, nle_f, nle_t, neq_f, neq_t, gi_si_e, gi_si_n, gp_sp_e, gp_sp_n, gr_sr_e, gr_sr_n, gi_sp, gi_sr, gp_si, gp_sr, gr_si, gr_sp, upd_e, upd_n, un_e, un_n, an_sn_e, an_sn_n, an_sm, an_sv, am_sn, am_sm_e, am_sm_n, am_sv, ai_sn, ai_sm, ai_sv_e, ai_sv_n, reduceIte, or_false, false_or, or_true, true_or, or_self, and_true, true_and, and_false, false_and, not_true_eq_false, not_false_eq_true, h.sz hr]
  | succ d ih =>
    intro fu i s hd hf hi
    obtain ⟨fu, rfl⟩ : ∃ f, fu = f + 1 := ⟨fu - 1, by omega⟩
    have := ih (fu := fu) (i := i + 1) (s := s + ((nI i).toInt64 + (1 : Int64)) * ((gr σ (16 + r + 16) i).toInt64 + (1 : Int64))) (by omega) (by omega) (by omega)
    unfold f_X10_sum_L11 sKq; simp (disch := omega) only [↓bnd_s, ↓bnd2_s, ↓bnd3_s, ↓bnd4_s, ↓bnd5_s, ↓bndR_l, ↓bndR_r, ↓bndX_l, ↓bndX_r, ↓bndQ_s, ↓bndQ2_s, bndQ_s, bndQ2_s, bnd_s, bnd2_s, bnd3_s, bnd4_s, bnd5_s, bndR_l, bndR_r, bndX_l, bndX_r, nq_lt, nq_le, nq_inj, nq_add, nq_mul, nq_sub, nq_div, nq_neg1, nq_clamp, nq_ne1, nq_le1, ne1_lt, n1_lt0, n1_lt, n1_ne, nz0, nz1, nz2, nz3, nz4, nz5, nz6, nz8, nz10, nz31, nz32, nz50, nz400, nz800, nz3200, nz20000, nlt_f, nlt_t, nle_f, nle_t, neq_f, neq_t, gi_si_e, gi_si_n, gp_sp_e, gp_sp_n, gr_sr_e, gr_sr_n, gi_sp, gi_sr, gp_si, gp_sr, gr_si, gr_sp, upd_e, upd_n, un_e, un_n, an_sn_e, an_sn_n, an_sm, an_sv, am_sn, am_sm_e, am_sm_n, am_sv, ai_sn, ai_sm, ai_sv_e, ai_sv_n, reduceIte, or_false, false_or, or_true, true_or, or_self, and_true, true_and, and_false, false_and, not_true_eq_false, not_false_eq_true, h.sz hr]; exact this
theorem E_sum (h : qIN a R σ) {r : Nat} (hr : r < 4) : f_X10_sum (nI r) σ = some (.inr (sKq (gr σ (16 + r + 16)) (R r).length 0 0)) := by
  have hn := h.len hr
  have g := sum_C h hr _ (fu := FU) (i := 0) (s := 0) rfl (by unfold FU; omega) (Nat.zero_le _)
  unfold f_X10_sum
  rw [rowAt_ok hr, bndX_r, nz0, g, Nat.sub_zero]; rfl
theorem sKq_congr {f g : Nat → Int32} : ∀ {d i : Nat} {s : Int64}, (∀ k, i ≤ k → k < i + d → f k = g k) → sKq f d i s = sKq g d i s
  | 0, _, _, _ => rfl
  | d + 1, i, s, h => by
    unfold sKq
    rw [h i (Nat.le_refl _) (by omega)]
    exact sKq_congr fun k h1 h2 => h k (by omega) (by omega)
/-- where a number belongs -/
theorem pf_C (h : qIN a R σ) {r : Nat} (hr : r < 4) (s : Int32) : ∀ (d : Nat) {fu i : Nat}, (R r).length - i = d → d < fu → i ≤ (R r).length → (∀ k, k < i → qFs a (gr σ (16 + r + 16) k) ≤ s) →
    ∃ o, o ≤ (R r).length ∧ f_X10_placeFor_L27 s (16 + r) σ fu (nI i) = some (nI o) ∧ (∀ k, k < o → qFs a (gr σ (16 + r + 16) k) ≤ s) ∧ (o < (R r).length → s < qFs a (gr σ (16 + r + 16) o)) := by
  have hn := h.len hr
  intro d
  induction d with
  | zero =>
    intro fu i hd hf hi hk
    obtain ⟨fu, rfl⟩ : ∃ f, fu = f + 1 := ⟨fu - 1, by omega⟩
    refine ⟨i, hi, ?_, hk, fun h9 => by omega⟩
    unfold f_X10_placeFor_L27; simp (disch := omega) only [↓bnd_s, ↓bnd2_s, ↓bnd3_s, ↓bnd4_s, ↓bnd5_s, ↓bndR_l, ↓bndR_r, ↓bndX_l, ↓bndX_r, ↓bndQ_s, ↓bndQ2_s, bndQ_s, bndQ2_s, bnd_s, bnd2_s, bnd3_s, bnd4_s, bnd5_s, bndR_l, bndR_r, bndX_l, bndX_r, nq_lt, nq_le, nq_inj, nq_add, nq_mul, nq_sub, nq_div, nq_neg1, nq_clamp, nq_ne1, nq_le1, ne1_lt, n1_lt0, n1_lt, n1_ne, nz0, nz1, nz2, nz3, nz4, nz5, nz6, nz8, nz10, nz31, nz32, nz50, nz400, nz800, nz3200, nz20000, nlt_f, nlt_t, nle_f, nle_t, neq_f, neq_t, gi_si_e, gi_si_n, gp_sp_e, gp_sp_n, gr_sr_e, gr_sr_n, gi_sp, gi_sr, gp_si, gp_sr, gr_si, gr_sp, upd_e, upd_n, un_e, un_n, an_sn_e, an_sn_n, an_sm, an_sv, am_sn, am_sm_e, am_sm_n, am_sv, ai_sn, ai_sm, ai_sv_e, ai_sv_n, reduceIte, or_false, false_or, or_true, true_or, or_self, and_true, true_and, and_false, false_and, not_true_eq_false, not_false_eq_true, h.sz hr]
  | succ d ih =>
    intro fu i hd hf hi hk
    obtain ⟨fu, rfl⟩ : ∃ f, fu = f + 1 := ⟨fu - 1, by omega⟩
    have e1 := E_firstAt h hr (k := i) (by omega)
    by_cases e : s < qFs a (gr σ (16 + r + 16) i)
    · refine ⟨i, hi, ?_, hk, fun _ => e⟩
      unfold f_X10_placeFor_L27; simp (disch := omega) only [↓bnd_s, ↓bnd2_s, ↓bnd3_s, ↓bnd4_s, ↓bnd5_s, ↓bndR_l, ↓bndR_r, ↓bndX_l, ↓bndX_r, ↓bndQ_s, ↓bndQ2_s, bndQ_s, bndQ2_s, bnd_s, bnd2_s, bnd3_s, bnd4_s, bnd5_s, bndR_l, bndR_r, bndX_l, bndX_r, nq_lt, nq_le, nq_inj, nq_add, nq_mul, nq_sub, nq_div, nq_neg1, nq_clamp, nq_ne1, nq_le1, ne1_lt, n1_lt0, n1_lt, n1_ne, nz0, nz1, nz2, nz3, nz4, nz5, nz6, nz8, nz10, nz31, nz32, nz50, nz400, nz800, nz3200, nz20000, nlt_f, nlt_t, nle_f, nle_t, neq_f, neq_t, gi_si_e, gi_si_n, gp_sp_e, gp_sp_n, gr_sr_e, gr_sr_n, gi_sp, gi_sr, gp_si, gp_sr, gr_si, gr_sp, upd_e, upd_n, un_e, un_n, an_sn_e, an_sn_n, an_sm, an_sv, am_sn, am_sm_e, am_sm_n, am_sv, ai_sn, ai_sm, ai_sv_e, ai_sv_n, reduceIte, or_false, false_or, or_true, true_or, or_self, and_true, true_and, and_false, false_and, not_true_eq_false, not_false_eq_true, h.sz hr, e1, e]
    · obtain ⟨o, g1, g2, g3, g4⟩ := ih (fu := fu) (i := i + 1) (by omega) (by omega) (by omega) (fun k h9 => by
        by_cases e9 : k = i
        · rw [e9]; exact Int32.not_lt.mp e
        · exact hk k (by omega))
      refine ⟨o, g1, ?_, g3, g4⟩
      unfold f_X10_placeFor_L27; simp (disch := omega) only [↓bnd_s, ↓bnd2_s, ↓bnd3_s, ↓bnd4_s, ↓bnd5_s, ↓bndR_l, ↓bndR_r, ↓bndX_l, ↓bndX_r, ↓bndQ_s, ↓bndQ2_s, bndQ_s, bndQ2_s, bnd_s, bnd2_s, bnd3_s, bnd4_s, bnd5_s, bndR_l, bndR_r, bndX_l, bndX_r, nq_lt, nq_le, nq_inj, nq_add, nq_mul, nq_sub, nq_div, nq_neg1, nq_clamp, nq_ne1, nq_le1, ne1_lt, n1_lt0, n1_lt, n1_ne, nz0, nz1, nz2, nz3, nz4, nz5, nz6, nz8, nz10, nz31, nz32, nz50, nz400, nz800, nz3200, nz20000, nlt_f, nlt_t, nle_f, nle_t, neq_f, neq_t, gi_si_e, gi_si_n, gp_sp_e, gp_sp_n, gr_sr_e, gr_sr_n, gi_sp, gi_sr, gp_si, gp_sr, gr_si, gr_sp, upd_e, upd_n, un_e, un_n, an_sn_e, an_sn_n, an_sm, an_sv, am_sn, am_sm_e, am_sm_n, am_sv, ai_sn, ai_sm, ai_sv_e, ai_sv_n, reduceIte, or_false, false_or, or_true, true_or, or_self, and_true, true_and, and_false, false_and, not_true_eq_false, not_false_eq_true, h.sz hr, e1, e]; exact g2
theorem E_placeFor (h : qIN a R σ) {r : Nat} (hr : r < 4) (s : Int32) (hs : sortedK (ky a 0) (R r)) :
    ∃ o, o ≤ (R r).length ∧ f_X10_placeFor (nI r) s σ = some (.inr (nI o)) ∧ (∀ k, k < o → qFs a (gr σ (16 + r + 16) k) ≤ s) ∧ (o < (R r).length → s < qFs a (gr σ (16 + r + 16) o)) := by
  have hn := h.len hr
  obtain ⟨o, h1, h2, h3, h4, h5⟩ := E_rises h hr
  rw [if_pos (h4.mpr hs)] at h3
  obtain ⟨o2, g1, g2, g3, g4⟩ := pf_C h hr s _ (fu := FU) (i := 0) rfl (by unfold FU; omega) (Nat.zero_le _) (fun k hk => by omega)
  refine ⟨o2, g1, ?_, g3, g4⟩
  unfold f_X10_placeFor
  rw [rowAt_ok hr, bndX_r, h3]; simp (disch := omega) only [↓bnd_s, ↓bnd2_s, ↓bnd3_s, ↓bnd4_s, ↓bnd5_s, ↓bndR_l, ↓bndR_r, ↓bndX_l, ↓bndX_r, ↓bndQ_s, ↓bndQ2_s, bndQ_s, bndQ2_s, bnd_s, bnd2_s, bnd3_s, bnd4_s, bnd5_s, bndR_l, bndR_r, bndX_l, bndX_r, nq_lt, nq_le, nq_inj, nq_add, nq_mul, nq_sub, nq_div, nq_neg1, nq_clamp, nq_ne1, nq_le1, ne1_lt, n1_lt0, n1_lt, n1_ne, nz0, nz1, nz2, nz3, nz4, nz5, nz6, nz8, nz10, nz31, nz32, nz50, nz400, nz800, nz3200, nz20000, nlt_f, nlt_t, nle_f, nle_t, neq_f, neq_t, gi_si_e, gi_si_n, gp_sp_e, gp_sp_n, gr_sr_e, gr_sr_n, gi_sp, gi_sr, gp_si, gp_sr, gr_si, gr_sp, upd_e, upd_n, un_e, un_n, an_sn_e, an_sn_n, an_sm, an_sv, am_sn, am_sm_e, am_sm_n, am_sv, ai_sn, ai_sm, ai_sv_e, ai_sv_n, reduceIte, or_false, false_or, or_true, true_or, or_self, and_true, true_and, and_false, false_and, not_true_eq_false, not_false_eq_true, g2]
theorem E_placeFor_no (h : qIN a R σ) {r : Nat} (hr : r < 4) (s : Int32) (hs : ¬ sortedK (ky a 0) (R r)) : f_X10_placeFor (nI r) s σ = some (.inl zS) := by
  obtain ⟨o, h1, h2, h3, h4, h5⟩ := E_rises h hr
  rw [if_neg (fun e => hs (h4.mp e))] at h3
  unfold f_X10_placeFor
  rw [rowAt_ok hr, bndX_r, h3]; simp (disch := omega) only [↓bnd_s, ↓bnd2_s, ↓bnd3_s, ↓bnd4_s, ↓bnd5_s, ↓bndR_l, ↓bndR_r, ↓bndX_l, ↓bndX_r, ↓bndQ_s, ↓bndQ2_s, bndQ_s, bndQ2_s, bnd_s, bnd2_s, bnd3_s, bnd4_s, bnd5_s, bndR_l, bndR_r, bndX_l, bndX_r, nq_lt, nq_le, nq_inj, nq_add, nq_mul, nq_sub, nq_div, nq_neg1, nq_clamp, nq_ne1, nq_le1, ne1_lt, n1_lt0, n1_lt, n1_ne, nz0, nz1, nz2, nz3, nz4, nz5, nz6, nz8, nz10, nz31, nz32, nz50, nz400, nz800, nz3200, nz20000, nlt_f, nlt_t, nle_f, nle_t, neq_f, neq_t, gi_si_e, gi_si_n, gp_sp_e, gp_sp_n, gr_sr_e, gr_sr_n, gi_sp, gi_sr, gp_si, gp_sr, gr_si, gr_sp, upd_e, upd_n, un_e, un_n, an_sn_e, an_sn_n, an_sm, an_sv, am_sn, am_sm_e, am_sm_n, am_sv, ai_sn, ai_sm, ai_sv_e, ai_sv_n, reduceIte, or_false, false_or, or_true, true_or, or_self, and_true, true_and, and_false, false_and, not_true_eq_false, not_false_eq_true]; rfl
end QI
