/-! all rows sorted together -/
def oF (R : QR) : Nat → Nat
  | 0 => 0
  | r + 1 => oF R r + (R r).length
def aL (R : QR) : Nat → List Int32
  | 0 => []
  | r + 1 => aL R r ++ R r
theorem oF_s (R : QR) (r : Nat) : oF R (r + 1) = oF R r + (R r).length := rfl
theorem aL_s (R : QR) (r : Nat) : aL R (r + 1) = aL R r ++ R r := rfl
theorem aL_len (R : QR) : ∀ r, (aL R r).length = oF R r
  | 0 => rfl
  | r + 1 => by rw [aL_s, List.length_append, aL_len R r, oF_s]
theorem aL_get (R : QR) {k q : Nat} (hq : q < (R k).length) : ∀ (r : Nat), k < r → (aL R r)[oF R k + q]? = (R k)[q]?
  | 0, h => absurd h (Nat.not_lt_zero _)
  | r + 1, h => by
    rw [aL_s]
    by_cases e : k = r
    · subst e
      rw [List.getElem?_append_right (by rw [aL_len]; omega), aL_len, Nat.add_sub_cancel_left]
    · have h1 := aL_get R hq r (by omega)
      have h2 := List.getElem?_eq_getElem hq
      rw [h2] at h1
      rw [List.getElem?_append_left (List.getElem?_eq_some_iff.mp h1).1, h1, h2]
theorem oF_in (R : QR) {r : Nat} (hr : r < 4) : oF R r + (R r).length ≤ oF R 4 := by
  have e4 : oF R 4 = (R 0).length + (R 1).length + (R 2).length + (R 3).length := by
    show 0 + (R 0).length + (R 1).length + (R 2).length + (R 3).length = _
    omega
  rcases (show r = 0 ∨ r = 1 ∨ r = 2 ∨ r = 3 by omega) with rfl | rfl | rfl | rfl
  · show 0 + (R 0).length ≤ _
    omega
  · show 0 + (R 0).length + (R 1).length ≤ _
    omega
  · show 0 + (R 0).length + (R 1).length + (R 2).length ≤ _
    omega
  · show 0 + (R 0).length + (R 1).length + (R 2).length + (R 3).length ≤ _
    omega
/-- the rows below k have what the sorted cards S lay there -/
def lR (S : List Int32) (R : QR) (k : Nat) : QR := fun i => if i < k then (S.drop (oF R i)).take (R i).length else R i
theorem lR_0 (S : List Int32) (R : QR) : lR S R 0 = R := by
  funext i
  exact if_neg (Nat.not_lt_zero i)
theorem lR_s (S : List Int32) (R : QR) (k : Nat) : qRs (lR S R k) k ((S.drop (oF R k)).take (R k).length) = lR S R (k + 1) := by
  funext i
  unfold qRs lR
  by_cases e : i = k
  · rw [if_pos e, if_pos (by omega), e]
  · by_cases e2 : i < k
    · rw [if_neg e, if_pos e2, if_pos (by omega)]
    · rw [if_neg e, if_neg e2, if_neg (by omega)]
theorem lR_n (S : List Int32) (R : QR) {k i : Nat} (h : k ≤ i) : lR S R k i = R i := if_neg (Nat.not_lt.mpr h)
theorem lR_p (S : List Int32) (R : QR) {k i : Nat} (h : i < k) : lR S R k i = (S.drop (oF R i)).take (R i).length := if_pos h
section QA
variable {a : AS} {R : QR} {σ σ' : St}
theorem qIN.tab (h : qIN a R σ) (g1 : ∀ k, k ≠ 59 → gi σ' k = gi σ k) (g2 : ∀ i, i ≠ 8 → i ≠ 9 → gr σ' i = gr σ i) (g3 : ∃ m m', SO σ' m m') : qIN a R σ' := by
  refine ⟨h.1, h.cd.fr (g1 10 (by decide)) (g2 2 (by decide) (by decide)) (g2 3 (by decide) (by decide)), fun r hr => ?_, g3, fun j h1 h2 => ?_, fun r hr hf => ?_⟩
  · obtain ⟨q1, q2, q3, q4⟩ := h.2.2.1 r hr
    exact ⟨q1, q2, by rw [g1 _ (by omega)]; exact q3, by rw [g2 _ (by omega) (by omega)]; exact q4⟩
  · rw [g1 _ (by omega)]; exact h.2.2.2.2.1 j h1 h2
  · rw [g2 _ (by decide) (by decide)]; exact h.2.2.2.2.2 r hr hf
theorem oF_le (h : qIN a R σ) : ∀ {r : Nat}, r ≤ 4 → oF R r ≤ 800 * r
  | 0, _ => Nat.zero_le _
  | r + 1, hr => by
    have h1 := oF_le h (r := r) (by omega)
    have h2 := h.len (r := r) (by omega)
    rw [oF_s]; omega
theorem aL_vl (h : qIN a R σ) : ∀ {r : Nat}, r ≤ 4 → vl a (aL R r)
  | 0, _ => vl_nil
  | r + 1, hr => vl_app (aL_vl h (r := r) (by omega)) (h.vl (r := r) (by omega))
theorem takeAll_C (h : qIN a R σ) {m m' : Nat} (hS : SO σ m m') : ∀ (d : Nat) {fu r : Nat}, 4 - r = d → d < fu → r ≤ 4 →
    f_X10_sortAll_L9 fu (nI r) (si (sr σ m (wr (gr σ m) 0 (aL R r))) 59 (nI (oF R r))) = some (si (sr σ m (wr (gr σ m) 0 (aL R 4))) 59 (nI (oF R 4))) := by
  have h89 := hS.2.2
  intro d
  induction d with
  | zero =>
    intro fu r hd hf hr
    obtain ⟨fu, rfl⟩ : ∃ f, fu = f + 1 := ⟨fu - 1, by omega⟩
    have e : r = 4 := by omega
    subst e
    unfold f_X10_sortAll_L9; simp (disch := omega) only [↓bnd_s, ↓bnd2_s, ↓bnd3_s, ↓bnd4_s, ↓bnd5_s, ↓bndR_l, ↓bndR_r, ↓bndX_l, ↓bndX_r, ↓bndQ_s, ↓bndQ2_s, bndQ_s, bndQ2_s, bnd_s, bnd2_s, bnd3_s, bnd4_s, bnd5_s, bndR_l, bndR_r, bndX_l, bndX_r, nq_lt, nq_le, nq_inj, nq_add, nq_mul, nq_sub, nq_div, nq_neg1, nq_clamp, nq_ne1, nq_le1, ne1_lt, n1_lt0, n1_lt, n1_ne, nz0, nz1, nz2, nz3, nz4, nz5, nz6, nz8, nz10, nz31, nz32, nz50, nz400, nz800, nz3200, nz20000, nlt_f, nlt_t, nle_f, nle_t, neq_f, neq_t, gi_si_e, gi_si_n, gp_sp_e, gp_sp_n, gr_sr_e, gr_sr_n, gi_sp, gi_sr, gp_si, gp_sr, gr_si, gr_sp, upd_e, upd_n, un_e, un_n, an_sn_e, an_sn_n, an_sm, an_sv, am_sn, am_sm_e, am_sm_n, am_sv, ai_sn, ai_sm, ai_sv_e, ai_sv_n, reduceIte, or_false, false_or, or_true, true_or, or_self, and_true, true_and, and_false, false_and, not_true_eq_false, not_false_eq_true]
  | succ d ih =>
    intro fu r hd hf hr
    obtain ⟨fu, rfl⟩ : ∃ f, fu = f + 1 := ⟨fu - 1, by omega⟩
    have hr4 : r < 4 := by omega
    have hn := h.len hr4
    have ho := oF_le h (r := r) (by omega)
    have this := ih (fu := fu) (r := r + 1) (by omega) (by omega) (by omega)
    have eg : gi (si (sr σ m (wr (gr σ m) 0 (aL R r))) 59 (nI (oF R r))) (8 * (16 + r) + 1) = nI (R r).length := by
      rw [gi_si_n _ _ (by omega), gi_sr, h.sz hr4]
    have t1 := take_eq (j := 16 + r) (p := 0) (e := (R r).length) (by omega) hn (by omega) (s := oF R r) (σ := si (sr σ m (wr (gr σ m) 0 (aL R r))) 59 (nI (oF R r))) (m := m) (m' := m') ⟨hS.1, hS.2.1, h89⟩ (gi_si_e _ _ rfl) (by omega)
    rw [sr_si, si_si, sr_sr, gr_si, gr_si, gr_sr_e _ _ rfl, gr_sr_n _ _ (show 16 + r + 16 ≠ m by omega), Nat.sub_zero, h.sg hr4] at t1
    have w := wr_app (gr σ m) 0 (R r) (aL R r)
    rw [aL_len, Nat.zero_add] at w
    rw [w] at t1
    unfold f_X10_sortAll_L9
    simp (disch := omega) only [↓bnd_s, ↓bnd2_s, ↓bnd3_s, ↓bnd4_s, ↓bnd5_s, ↓bndR_l, ↓bndR_r, ↓bndX_l, ↓bndX_r, ↓bndQ_s, ↓bndQ2_s, bndQ_s, bndQ2_s, bnd_s, bnd2_s, bnd3_s, bnd4_s, bnd5_s, bndR_l, bndR_r, bndX_l, bndX_r, nq_lt, nq_le, nq_inj, nq_add, nq_mul, nq_sub, nq_div, nq_neg1, nq_clamp, nq_ne1, nq_le1, ne1_lt, n1_lt0, n1_lt, n1_ne, nz0, nz1, nz2, nz3, nz4, nz5, nz6, nz8, nz10, nz31, nz32, nz50, nz400, nz800, nz3200, nz20000, nlt_f, nlt_t, nle_f, nle_t, neq_f, neq_t, gi_si_e, gi_si_n, gp_sp_e, gp_sp_n, gr_sr_e, gr_sr_n, gi_sp, gi_sr, gp_si, gp_sr, gr_si, gr_sp, upd_e, upd_n, un_e, un_n, an_sn_e, an_sn_n, an_sm, an_sv, am_sn, am_sm_e, am_sm_n, am_sv, ai_sn, ai_sm, ai_sv_e, ai_sv_n, reduceIte, or_false, false_or, or_true, true_or, or_self, and_true, true_and, and_false, false_and, not_true_eq_false, not_false_eq_true, eg, t1]
    exact this
theorem layAll_C {S : List Int32} (T : Nat → Int32) (hR : ∀ r, r < 4 → (R r).length ≤ 800) (hT : seg T 0 S.length = S) (hSl : S.length = oF R 4) (hv : vl a S) : ∀ (d : Nat) {fu r : Nat} {σ : St} {M M' : Nat}, 4 - r = d → d < fu → r ≤ 4 → qIN a (lR S R r) σ → SO σ M M' → gi σ 59 = nI (oF R 4) → gr σ M = T →
    ∃ σ', f_X10_sortAll_L60 fu (nI (dif (gL (aL R 4)) (gL S) (oF R r))) (nI (oF R r)) (nI r) σ = some (nI (dif (gL (aL R 4)) (gL S) (oF R 4)), σ') ∧ qIN a (lR S R 4) σ' := by
  intro d
  induction d with
  | zero =>
    intro fu r σ M M' hd hf hr h hS hg hM
    obtain ⟨fu, rfl⟩ : ∃ f, fu = f + 1 := ⟨fu - 1, by omega⟩
    have e : r = 4 := by omega
    subst e
    exact ⟨σ, by unfold f_X10_sortAll_L60; simp (disch := omega) only [↓bnd_s, ↓bnd2_s, ↓bnd3_s, ↓bnd4_s, ↓bnd5_s, ↓bndR_l, ↓bndR_r, ↓bndX_l, ↓bndX_r, ↓bndQ_s, ↓bndQ2_s, bndQ_s, bndQ2_s, bnd_s, bnd2_s, bnd3_s, bnd4_s, bnd5_s, bndR_l, bndR_r, bndX_l, bndX_r, nq_lt, nq_le, nq_inj, nq_add, nq_mul, nq_sub, nq_div, nq_neg1, nq_clamp, nq_ne1, nq_le1, ne1_lt, n1_lt0, n1_lt, n1_ne, nz0, nz1, nz2, nz3, nz4, nz5, nz6, nz8, nz10, nz31, nz32, nz50, nz400, nz800, nz3200, nz20000, nlt_f, nlt_t, nle_f, nle_t, neq_f, neq_t, gi_si_e, gi_si_n, gp_sp_e, gp_sp_n, gr_sr_e, gr_sr_n, gi_sp, gi_sr, gp_si, gp_sr, gr_si, gr_sp, upd_e, upd_n, un_e, un_n, an_sn_e, an_sn_n, an_sm, an_sv, am_sn, am_sm_e, am_sm_n, am_sv, ai_sn, ai_sm, ai_sv_e, ai_sv_n, reduceIte, or_false, false_or, or_true, true_or, or_self, and_true, true_and, and_false, false_and, not_true_eq_false, not_false_eq_true], h⟩
  | succ d ih =>
    intro fu r σ M M' hd hf hr h hS hg hM
    obtain ⟨fu, rfl⟩ : ∃ f, fu = f + 1 := ⟨fu - 1, by omega⟩
    have h89 := hS.2.2
    have hr4 : r < 4 := by omega
    have eR := lR_n S R (Nat.le_refl r)
    have hn := hR r hr4
    have hz := h.sz hr4
    have hsg := h.sg hr4
    rw [eR] at hz hsg
    have hin := oF_in R hr4
    have h3200 : oF R 4 ≤ 3200 := by
      have e4 : oF R 4 = (R 0).length + (R 1).length + (R 2).length + (R 3).length := by
        show 0 + (R 0).length + (R 1).length + (R 2).length + (R 3).length = _
        omega
      have := hR 0 (by omega)
      have := hR 1 (by omega)
      have := hR 2 (by omega)
      have := hR 3 (by omega)
      omega
    have lc := lay_eq (j := 16 + r) (s0 := oF R r) (fr := 0) (to := (R r).length) (S := oF R 4) hS hg (by omega) hn (by omega) (by omega) h3200
    rw [Nat.sub_zero, hM] at lc
    have hsl := seg_all hT (p := oF R r) (e := oF R r + (R r).length) (by omega) (by omega)
    rw [Nat.add_sub_cancel_left] at hsl
    rw [hsl] at lc
    have hLl : ((S.drop (oF R r)).take (R r).length).length = (R r).length := by rw [List.length_take, List.length_drop]; omega
    have hq := h.wr hr4 (L := (S.drop (oF R r)).take (R r).length) (F := wr (gr σ (16 + r + 16)) 0 ((S.drop (oF R r)).take (R r).length)) (by omega) (fun x hx => hv x (List.mem_of_mem_drop (List.mem_of_mem_take hx))) (seg_wr _ _ _)
    rw [hLl, si_id (by rw [gi_sr]; exact hz), lR_s] at hq
    obtain ⟨σ', k1, k2⟩ := ih (fu := fu) (r := r + 1) (M := M) (M' := M') (by omega) (by omega) (by omega) hq ⟨hS.1, hS.2.1, h89⟩ (by rw [gi_sr]; exact hg) (by rw [gr_sr_n _ _ (by omega)]; exact hM)
    have hd2 : dif (gL (aL R 4)) (gL S) (oF R r + (R r).length) = dif (gL (aL R 4)) (gL S) (oF R r) + dif (fun k => gr σ (16 + r + 16) (0 + k)) (fun k => T (oF R r + k)) (R r).length := by
      rw [dif_add]
      congr 1
      refine dif_congr (fun q hq => ?_) (fun q hq => ?_)
      · show gL (aL R 4) (oF R r + q) = gr σ (16 + r + 16) (0 + q)
        unfold gL
        rw [aL_get R hq 4 hr4, Nat.zero_add, seg_of hsg hq]; rfl
      · show gL S (oF R r + q) = T (oF R r + q)
        unfold gL
        rw [seg_of hT (by omega)]; rfl
    rw [oF_s, hd2] at k1
    refine ⟨σ', ?_, k2⟩
    unfold f_X10_sortAll_L60
    simp (disch := omega) only [↓bnd_s, ↓bnd2_s, ↓bnd3_s, ↓bnd4_s, ↓bnd5_s, ↓bndR_l, ↓bndR_r, ↓bndX_l, ↓bndX_r, ↓bndQ_s, ↓bndQ2_s, bndQ_s, bndQ2_s, bnd_s, bnd2_s, bnd3_s, bnd4_s, bnd5_s, bndR_l, bndR_r, bndX_l, bndX_r, nq_lt, nq_le, nq_inj, nq_add, nq_mul, nq_sub, nq_div, nq_neg1, nq_clamp, nq_ne1, nq_le1, ne1_lt, n1_lt0, n1_lt, n1_ne, nz0, nz1, nz2, nz3, nz4, nz5, nz6, nz8, nz10, nz31, nz32, nz50, nz400, nz800, nz3200, nz20000, nlt_f, nlt_t, nle_f, nle_t, neq_f, neq_t, gi_si_e, gi_si_n, gp_sp_e, gp_sp_n, gr_sr_e, gr_sr_n, gi_sp, gi_sr, gp_si, gp_sr, gr_si, gr_sp, upd_e, upd_n, un_e, un_n, an_sn_e, an_sn_n, an_sm, an_sv, am_sn, am_sm_e, am_sm_n, am_sv, ai_sn, ai_sm, ai_sv_e, ai_sv_n, reduceIte, or_false, false_or, or_true, true_or, or_self, and_true, true_and, and_false, false_and, not_true_eq_false, not_false_eq_true, hz, lc]
    exact k1
theorem E_sortAll (h : qIN a R σ) : ∃ σ', f_X10_sortAll σ = some (nI (dif (gL (aL R 4)) (gL (isrt (ky a 0) (aL R 4))) (oF R 4)), σ') ∧ qIN a (lR (isrt (ky a 0) (aL R 4)) R 4) σ' := by
  have hm := h.m
  obtain ⟨m, m', hS⟩ := h.so
  have h89 := hS.2.2
  have hN := oF_le h (r := 4) (by omega)
  obtain ⟨N, hNe⟩ : ∃ n, n = oF R 4 := ⟨_, rfl⟩
  rw [← hNe] at hN
  have hq1 : qIN a R (si σ 59 (nI 0)) := h.tab (fun k hk => gi_si_n _ _ hk) (fun _ _ _ => rfl) ⟨m, m', hS⟩
  have t1 := takeAll_C hq1 (m := m) (m' := m') ⟨hS.1, hS.2.1, h89⟩ _ (fu := FU) (r := 0) rfl (by unfold FU; omega) (by omega)
  rw [show aL R 0 = [] from rfl, wr_nil, sr_si, sr_si, si_si, si_si, gr_si, sr_id, show oF R 0 = 0 from rfl, ← hNe] at t1
  obtain ⟨X, hX⟩ : ∃ z, z = wr (gr σ m) 0 (aL R 4) := ⟨_, rfl⟩
  rw [← hX] at t1
  have hsX : seg X 0 N = aL R 4 := by
    have := seg_wr (aL R 4) (gr σ m) 0
    rw [aL_len, ← hNe, ← hX] at this
    exact this
  have eX : gr (si (sr σ m X) 59 (nI N)) m = X := by rw [gr_si, gr_sr_e _ _ rfl]
  obtain ⟨σ1, M, M', k1, k2, k3, k4⟩ := arrange_eq hm (t := 0) (by omega) (n := N) (m := m) (m' := m') (σ := si (sr σ m X) 59 (nI N)) (by omega) (h.cd.fr (by simp (disch := omega) only [gi_si_e, gi_si_n, gp_sp_e, gp_sp_n, gr_sr_e, gr_sr_n, gi_sp, gi_sr, gp_si, gp_sr, gr_si, gr_sp, upd_e, upd_n, un_e, un_n, an_sn_e, an_sn_n, an_sm, an_sv, am_sn, am_sm_e, am_sm_n, am_sv, ai_sn, ai_sm, ai_sv_e, ai_sv_n, reduceIte, or_false, false_or, or_true, true_or, or_self, and_true, true_and, and_false, false_and, not_true_eq_false, not_false_eq_true]) (by simp (disch := omega) only [gi_si_e, gi_si_n, gp_sp_e, gp_sp_n, gr_sr_e, gr_sr_n, gi_sp, gi_sr, gp_si, gp_sr, gr_si, gr_sp, upd_e, upd_n, un_e, un_n, an_sn_e, an_sn_n, an_sm, an_sv, am_sn, am_sm_e, am_sm_n, am_sv, ai_sn, ai_sm, ai_sv_e, ai_sv_n, reduceIte, or_false, false_or, or_true, true_or, or_self, and_true, true_and, and_false, false_and, not_true_eq_false, not_false_eq_true]) (by simp (disch := omega) only [gi_si_e, gi_si_n, gp_sp_e, gp_sp_n, gr_sr_e, gr_sr_n, gi_sp, gi_sr, gp_si, gp_sr, gr_si, gr_sp, upd_e, upd_n, un_e, un_n, an_sn_e, an_sn_n, an_sm, an_sv, am_sn, am_sm_e, am_sm_n, am_sv, ai_sn, ai_sm, ai_sv_e, ai_sv_n, reduceIte, or_false, false_or, or_true, true_or, or_self, and_true, true_and, and_false, false_and, not_true_eq_false, not_false_eq_true])) ⟨hS.1, hS.2.1, h89⟩ (gi_si_e _ _ rfl) (fun q hq => by
    rw [eX]
    have h1 : X q ∈ seg X 0 N := seg_mem' hq
    rw [hsX] at h1
    exact aL_vl h (by omega) _ h1)
  rw [eX, hsX] at k1 k4
  have hq2 : qIN a R σ1 := h.tab (fun k hk => by rw [k2.1, gi_si_n _ _ hk]; rfl) (fun i h1 h2 => by rw [k2.2.2 _ h1 h2, gr_si, gr_sr_n _ _ (by omega)]) ⟨M, M', k3⟩
  have hSl : (isrt (ky a 0) (aL R 4)).length = N := by rw [isrt_len, aL_len, hNe]
  obtain ⟨σ', l1, l2⟩ := layAll_C (R := R) (S := isrt (ky a 0) (aL R 4)) (gr σ1 M) (fun r hr => h.len hr) (by rw [hSl]; exact k4) (hSl.trans hNe) (aL_vl h (r := 4) (by omega)).is 4 (fu := FU) (r := 0) (by omega) (by unfold FU; omega) (by omega) (by rw [lR_0]; exact hq2) k3 (by rw [k2.1, ← hNe]; exact gi_si_e _ _ rfl) rfl
  rw [show oF R 0 = 0 from rfl, show dif (gL (aL R 4)) (gL (isrt (ky a 0) (aL R 4))) 0 = 0 from rfl] at l1
  have k1' : f_X8_arrange 0 (si (sr σ m X) 59 (nI N)) = some (nI (invs (ky a 0) (aL R 4)), σ1) := k1
  refine ⟨σ', ?_, l2⟩
  unfold f_X10_sortAll f_X8_clear
  rw [nz0, bnd_s, t1, bnd_s, k1', bnd2_s, l1]; rfl
/-- the check of the theorem finds nothing -/
theorem err_C : ∀ (d : Nat) {fu r : Nat} {σ : St}, qIN a R σ → 4 - r = d → d < fu → r ≤ 4 → ∃ σ', f_X10_errors_L4 fu (nI 0) (nI r) σ = some (nI 0, σ') := by
  intro d
  induction d with
  | zero =>
    intro fu r σ h hd hf hr
    obtain ⟨fu, rfl⟩ : ∃ f, fu = f + 1 := ⟨fu - 1, by omega⟩
    have e : r = 4 := by omega
    subst e
    exact ⟨σ, by unfold f_X10_errors_L4; simp (disch := omega) only [↓bnd_s, ↓bnd2_s, ↓bnd3_s, ↓bnd4_s, ↓bnd5_s, ↓bndR_l, ↓bndR_r, ↓bndX_l, ↓bndX_r, ↓bndQ_s, ↓bndQ2_s, bndQ_s, bndQ2_s, bnd_s, bnd2_s, bnd3_s, bnd4_s, bnd5_s, bndR_l, bndR_r, bndX_l, bndX_r, nq_lt, nq_le, nq_inj, nq_add, nq_mul, nq_sub, nq_div, nq_neg1, nq_clamp, nq_ne1, nq_le1, ne1_lt, n1_lt0, n1_lt, n1_ne, nz0, nz1, nz2, nz3, nz4, nz5, nz6, nz8, nz10, nz31, nz32, nz50, nz400, nz800, nz3200, nz20000, nlt_f, nlt_t, nle_f, nle_t, neq_f, neq_t, gi_si_e, gi_si_n, gp_sp_e, gp_sp_n, gr_sr_e, gr_sr_n, gi_sp, gi_sr, gp_si, gp_sr, gr_si, gr_sp, upd_e, upd_n, un_e, un_n, an_sn_e, an_sn_n, an_sm, an_sv, am_sn, am_sm_e, am_sm_n, am_sv, ai_sn, ai_sm, ai_sv_e, ai_sv_n, reduceIte, or_false, false_or, or_true, true_or, or_self, and_true, true_and, and_false, false_and, not_true_eq_false, not_false_eq_true]⟩
  | succ d ih =>
    intro fu r σ h hd hf hr
    obtain ⟨fu, rfl⟩ : ∃ f, fu = f + 1 := ⟨fu - 1, by omega⟩
    have hr4 : r < 4 := by omega
    obtain ⟨s, s1, s2⟩ := h.2.2.2.2.1 24 (by omega) (by omega)
    obtain ⟨u, u1, u2⟩ := h.2.2.2.2.1 25 (by omega) (by omega)
    obtain ⟨σ1, p1, e1, S1, n1, n2⟩ := holds_eq h.m hr4 (h.len hr4) (h.vl hr4) h.cd h.so (h.cr hr4) s2 u2 s1 u1
    have h1 : qIN a R σ1 := by
      refine ⟨h.1, h.cd.ef e1, fun r' hr' => ?_, S1, fun j h1 h2 => ?_, fun r' hr' hf => ?_⟩
      · obtain ⟨q1, q2, q3, q4⟩ := h.2.2.1 r' hr'
        exact ⟨q1, q2, by rw [e1.1 _ (by omega) (by omega) (by omega)]; exact q3, by rw [e1.2.2 _ (by omega) (by omega) (by omega) (by omega)]; exact q4⟩
      · rcases (show j = 24 ∨ j = 25 by omega) with rfl | rfl
        · exact ⟨_, h.len hr4, n1⟩
        · exact ⟨_, h.len hr4, n2⟩
      · rw [e1.2.2 _ (by decide) (by decide) (by decide) (by decide)]; exact h.2.2.2.2.2 r' hr' hf
    obtain ⟨σ', g⟩ := ih (fu := fu) (r := r + 1) h1 (by omega) (by omega) (by omega)
    refine ⟨σ', ?_⟩
    unfold f_X10_errors_L4
    simp (disch := omega) only [↓bnd_s, ↓bnd2_s, ↓bnd3_s, ↓bnd4_s, ↓bnd5_s, ↓bndR_l, ↓bndR_r, ↓bndX_l, ↓bndX_r, ↓bndQ_s, ↓bndQ2_s, bndQ_s, bndQ2_s, bnd_s, bnd2_s, bnd3_s, bnd4_s, bnd5_s, bndR_l, bndR_r, bndX_l, bndX_r, nq_lt, nq_le, nq_inj, nq_add, nq_mul, nq_sub, nq_div, nq_neg1, nq_clamp, nq_ne1, nq_le1, ne1_lt, n1_lt0, n1_lt, n1_ne, nz0, nz1, nz2, nz3, nz4, nz5, nz6, nz8, nz10, nz31, nz32, nz50, nz400, nz800, nz3200, nz20000, nlt_f, nlt_t, nle_f, nle_t, neq_f, neq_t, gi_si_e, gi_si_n, gp_sp_e, gp_sp_n, gr_sr_e, gr_sr_n, gi_sp, gi_sr, gp_si, gp_sr, gr_si, gr_sp, upd_e, upd_n, un_e, un_n, an_sn_e, an_sn_n, an_sm, an_sv, am_sn, am_sm_e, am_sm_n, am_sv, ai_sn, ai_sm, ai_sv_e, ai_sv_n, reduceIte, or_false, false_or, or_true, true_or, or_self, and_true, true_and, and_false, false_and, not_true_eq_false, not_false_eq_true, p1]
    exact g
theorem E_errors (h : qIN a R σ) : ∃ σ', f_X10_errors σ = some (nI 0, σ') := by
  obtain ⟨σ', g⟩ := err_C 4 (fu := FU) (r := 0) h (by omega) (by unfold FU; omega) (by omega)
  refine ⟨σ', ?_⟩
  unfold f_X10_errors
  rw [nz0, g]; rfl
end QA
