/-! wrong pairs, unlike ones, the middle one, all rows sorted together -/
theorem wr_app (g : Nat → Int32) (p : Nat) : ∀ (l2 l : List Int32), wr (wr g p l) (p + l.length) l2 = wr g p (l ++ l2)
  | [], l => by rw [wr_nil, List.append_nil]
  | x :: l2, l => by
    rw [← wr_cons, wr_snoc]
    have := wr_app g p l2 (l ++ [x])
    rw [List.length_append, List.length_singleton, ← Nat.add_assoc, List.append_assoc] at this
    exact this
theorem sk_get {key : Int32 → Int} {T : Nat → Int32} {n q p : Nat} (h : sortedK key (seg T 0 n)) (hqp : q < p) (hp : p < n) : key (T q) ≤ key (T p) := by
  have h1 := List.pairwise_iff_getElem.mp h q p (by rw [seg_len]; omega) (by rw [seg_len]; omega) hqp
  have e1 := seg_get T n 0 q (by omega)
  have e2 := seg_get T n 0 p hp
  rw [List.getElem?_eq_getElem (by rw [seg_len]; omega), Nat.zero_add] at e1 e2
  rw [Option.some.inj e1, Option.some.inj e2] at h1
  exact h1
/-- the row's marks, as ints -/
def mk (a : AS) (r : Nat) : Nat → Int32 := fun k => nI (am a r k)
section AK
variable {a : AS} {σ τ : St}
theorem sortCopy_eq (h : REL a σ τ) {r : Nat} (hr : r < 4) :
    ∃ σ' M M', f_X10_sortCopy (16 + r) σ = some (nI (invs (ky a 0) (seg (mk a r) 0 (an a (10 + r)))), σ') ∧ cIr σ σ' ∧ SO σ' M M' ∧ gi σ' 59 = nI (an a (10 + r)) ∧ seg (gr σ' M) 0 (an a (10 + r)) = isrt (ky a 0) (seg (mk a r) 0 (an a (10 + r))) := by
  have hn := h.n hr
  have hm := h.m
  obtain ⟨m, m', hS⟩ := h.SO
  have h89 := hS.2.2
  have t1 := take_eq (j := 16 + r) (p := 0) (e := an a (10 + r)) (by omega) hn (by omega) (s := 0) (σ := si σ 59 (nI 0)) (m := m) (m' := m') ⟨hS.1, hS.2.1, h89⟩ (gi_si_e _ _ rfl) (by omega)
  rw [sr_si, si_si, gr_si, gr_si, Nat.zero_add, Nat.sub_zero] at t1
  obtain ⟨X, hX⟩ : ∃ z, z = wr (gr σ m) 0 (seg (gr σ (16 + r + 16)) 0 (an a (10 + r))) := ⟨_, rfl⟩
  rw [← hX] at t1
  have hat : ∀ k, k < an a (10 + r) → X k = mk a r k := fun k hk => by
    have := wr_at (gr σ m) (gr σ (16 + r + 16)) 0 0 _ k hk
    rw [Nat.zero_add, ← hX] at this
    rw [this]; exact h.cmk hr hk
  have hseg : seg X 0 (an a (10 + r)) = seg (mk a r) 0 (an a (10 + r)) := seg_congr fun k hk => by rw [Nat.zero_add]; exact hat k hk
  have eX : gr (si (sr σ m X) 59 (nI (an a (10 + r)))) m = X := by rw [gr_si, gr_sr_e _ _ rfl]
  obtain ⟨σ1, M, M', k1, k2, k3, k4⟩ := arrange_eq hm (t := 0) (by omega) (n := an a (10 + r)) (m := m) (m' := m') (σ := si (sr σ m X) 59 (nI (an a (10 + r)))) (by omega) (h.cd.fr (by simp (disch := omega) only [gi_si_e, gi_si_n, gp_sp_e, gp_sp_n, gr_sr_e, gr_sr_n, gi_sp, gi_sr, gp_si, gp_sr, gr_si, gr_sp, upd_e, upd_n, un_e, un_n, an_sn_e, an_sn_n, an_sm, an_sv, am_sn, am_sm_e, am_sm_n, am_sv, ai_sn, ai_sm, ai_sv_e, ai_sv_n, reduceIte, or_false, false_or, or_true, true_or, or_self, and_true, true_and, and_false, false_and, not_true_eq_false, not_false_eq_true]) (by simp (disch := omega) only [gi_si_e, gi_si_n, gp_sp_e, gp_sp_n, gr_sr_e, gr_sr_n, gi_sp, gi_sr, gp_si, gp_sr, gr_si, gr_sp, upd_e, upd_n, un_e, un_n, an_sn_e, an_sn_n, an_sm, an_sv, am_sn, am_sm_e, am_sm_n, am_sv, ai_sn, ai_sm, ai_sv_e, ai_sv_n, reduceIte, or_false, false_or, or_true, true_or, or_self, and_true, true_and, and_false, false_and, not_true_eq_false, not_false_eq_true]) (by simp (disch := omega) only [gi_si_e, gi_si_n, gp_sp_e, gp_sp_n, gr_sr_e, gr_sr_n, gi_sp, gi_sr, gp_si, gp_sr, gr_si, gr_sp, upd_e, upd_n, un_e, un_n, an_sn_e, an_sn_n, an_sm, an_sv, am_sn, am_sm_e, am_sm_n, am_sv, ai_sn, ai_sm, ai_sv_e, ai_sv_n, reduceIte, or_false, false_or, or_true, true_or, or_self, and_true, true_and, and_false, false_and, not_true_eq_false, not_false_eq_true])) ⟨hS.1, hS.2.1, h89⟩ (gi_si_e _ _ rfl) (fun q hq => by
    rw [eX, hat q hq]; exact ⟨_, h.lt hr hq, rfl⟩)
  rw [eX, hseg] at k1 k4
  refine ⟨σ1, M, M', ?_, ?_, k3, (k2.1 59).trans (gi_si_e _ _ rfl), k4⟩
  · unfold f_X10_sortCopy f_X8_clear
    rw [nz0, bnd_s, show gi (si σ 59 (nI 0)) (8 * (16 + r) + 1) = nI (an a (10 + r)) by rw [gi_si_n _ _ (by omega), h.cn hr], t1, bnd_s, show (0 : Nat) = oNo 0 from rfl, k1]; rfl
  · refine ⟨?_, ?_, ?_, fun t ht => ?_, ?_, ?_, ?_, ?_, fun t ht => ?_, k3.or⟩
    · rw [k2.1]; simp (disch := omega) only [gi_si_e, gi_si_n, gp_sp_e, gp_sp_n, gr_sr_e, gr_sr_n, gi_sp, gi_sr, gp_si, gp_sr, gr_si, gr_sp, upd_e, upd_n, un_e, un_n, an_sn_e, an_sn_n, an_sm, an_sv, am_sn, am_sm_e, am_sm_n, am_sv, ai_sn, ai_sm, ai_sv_e, ai_sv_n, reduceIte, or_false, false_or, or_true, true_or, or_self, and_true, true_and, and_false, false_and, not_true_eq_false, not_false_eq_true]
    · rw [k2.1]; simp (disch := omega) only [gi_si_e, gi_si_n, gp_sp_e, gp_sp_n, gr_sr_e, gr_sr_n, gi_sp, gi_sr, gp_si, gp_sr, gr_si, gr_sp, upd_e, upd_n, un_e, un_n, an_sn_e, an_sn_n, an_sm, an_sv, am_sn, am_sm_e, am_sm_n, am_sv, ai_sn, ai_sm, ai_sv_e, ai_sv_n, reduceIte, or_false, false_or, or_true, true_or, or_self, and_true, true_and, and_false, false_and, not_true_eq_false, not_false_eq_true]
    · rw [k2.1]; simp (disch := omega) only [gi_si_e, gi_si_n, gp_sp_e, gp_sp_n, gr_sr_e, gr_sr_n, gi_sp, gi_sr, gp_si, gp_sr, gr_si, gr_sp, upd_e, upd_n, un_e, un_n, an_sn_e, an_sn_n, an_sm, an_sv, am_sn, am_sm_e, am_sm_n, am_sv, ai_sn, ai_sm, ai_sv_e, ai_sv_n, reduceIte, or_false, false_or, or_true, true_or, or_self, and_true, true_and, and_false, false_and, not_true_eq_false, not_false_eq_true]
    · rw [k2.1, gi_si_n _ _ (by omega)]; rfl
    · rw [k2.2.2 _ (by omega) (by omega)]; simp (disch := omega) only [gi_si_e, gi_si_n, gp_sp_e, gp_sp_n, gr_sr_e, gr_sr_n, gi_sp, gi_sr, gp_si, gp_sr, gr_si, gr_sp, upd_e, upd_n, un_e, un_n, an_sn_e, an_sn_n, an_sm, an_sv, am_sn, am_sm_e, am_sm_n, am_sv, ai_sn, ai_sm, ai_sv_e, ai_sv_n, reduceIte, or_false, false_or, or_true, true_or, or_self, and_true, true_and, and_false, false_and, not_true_eq_false, not_false_eq_true]
    · rw [k2.2.2 _ (by omega) (by omega)]; simp (disch := omega) only [gi_si_e, gi_si_n, gp_sp_e, gp_sp_n, gr_sr_e, gr_sr_n, gi_sp, gi_sr, gp_si, gp_sr, gr_si, gr_sp, upd_e, upd_n, un_e, un_n, an_sn_e, an_sn_n, an_sm, an_sv, am_sn, am_sm_e, am_sm_n, am_sv, ai_sn, ai_sm, ai_sv_e, ai_sv_n, reduceIte, or_false, false_or, or_true, true_or, or_self, and_true, true_and, and_false, false_and, not_true_eq_false, not_false_eq_true]
    · rw [k2.2.2 _ (by omega) (by omega)]; simp (disch := omega) only [gi_si_e, gi_si_n, gp_sp_e, gp_sp_n, gr_sr_e, gr_sr_n, gi_sp, gi_sr, gp_si, gp_sr, gr_si, gr_sp, upd_e, upd_n, un_e, un_n, an_sn_e, an_sn_n, an_sm, an_sv, am_sn, am_sm_e, am_sm_n, am_sv, ai_sn, ai_sm, ai_sv_e, ai_sv_n, reduceIte, or_false, false_or, or_true, true_or, or_self, and_true, true_and, and_false, false_and, not_true_eq_false, not_false_eq_true]
    · rw [k2.2.2 _ (by omega) (by omega)]; simp (disch := omega) only [gi_si_e, gi_si_n, gp_sp_e, gp_sp_n, gr_sr_e, gr_sr_n, gi_sp, gi_sr, gp_si, gp_sr, gr_si, gr_sp, upd_e, upd_n, un_e, un_n, an_sn_e, an_sn_n, an_sm, an_sv, am_sn, am_sm_e, am_sm_n, am_sv, ai_sn, ai_sm, ai_sv_e, ai_sv_n, reduceIte, or_false, false_or, or_true, true_or, or_self, and_true, true_and, and_false, false_and, not_true_eq_false, not_false_eq_true]
    · rw [k2.2.2 _ (by omega) (by omega), gr_si, gr_sr_n _ _ (by omega)]
theorem wp_in (h : REL a σ τ) {r i c : Nat} (hr : r < 4) (hi : i < an a (10 + r)) : ∀ (d : Nat) {fu j : Nat}, i - j = d → d < fu → j ≤ i →
    f_X11_wrongPairs_L30 (nI r) (nI i) τ fu (nI (c + (seg (mk a r) 0 j).countP (fun b => decide (ky a 0 (mk a r i) < ky a 0 b)))) (nI j) = some (nI (c + (seg (mk a r) 0 i).countP (fun b => decide (ky a 0 (mk a r i) < ky a 0 b)))) := by
  have hn := h.n hr
  intro d
  induction d with
  | zero =>
    intro fu j hd hf hj
    obtain ⟨fu, rfl⟩ : ∃ f, fu = f + 1 := ⟨fu - 1, by omega⟩
    have e : j = i := by omega
    subst e
    unfold f_X11_wrongPairs_L30; simp (disch := omega) only [↓bnd_s, ↓bnd2_s, ↓bnd3_s, ↓bnd4_s, ↓bnd5_s, ↓bndR_l, ↓bndR_r, ↓bndX_l, ↓bndX_r, bnd_s, bnd2_s, bnd3_s, bnd4_s, bnd5_s, bndR_l, bndR_r, bndX_l, bndX_r, nq_lt, nq_le, nq_inj, nq_add, nq_mul, nq_sub, nq_div, nq_neg1, nq_clamp, nq_ne1, nq_le1, ne1_lt, n1_lt0, n1_lt, n1_ne, nz0, nz1, nz2, nz3, nz4, nz5, nz6, nz8, nz10, nz31, nz32, nz50, nz400, nz800, nz3200, nz20000, nlt_f, nlt_t, nle_f, nle_t, neq_f, neq_t, gi_si_e, gi_si_n, gp_sp_e, gp_sp_n, gr_sr_e, gr_sr_n, gi_sp, gi_sr, gp_si, gp_sr, gr_si, gr_sp, upd_e, upd_n, un_e, un_n, an_sn_e, an_sn_n, an_sm, an_sv, am_sn, am_sm_e, am_sm_n, am_sv, ai_sn, ai_sm, ai_sv_e, ai_sv_n, reduceIte, or_false, false_or, or_true, true_or, or_self, and_true, true_and, and_false, false_and, not_true_eq_false, not_false_eq_true]
  | succ d ih =>
    intro fu j hd hf hj
    obtain ⟨fu, rfl⟩ : ∃ f, fu = f + 1 := ⟨fu - 1, by omega⟩
    have := ih (fu := fu) (j := j + 1) (by omega) (by omega) (by omega)
    rw [seg_snoc, List.countP_append, List.countP_singleton, Nat.zero_add] at this
    have k := ky_lt (t := 0) h.m (h.lt hr hi) (h.lt hr (show j < an a (10 + r) by omega))
    simp only [if_true] at k
    unfold f_X11_wrongPairs_L30
    by_cases e : ai a 0 (am a r i) < ai a 0 (am a r j)
    · rw [if_pos (decide_eq_true (show ky a 0 (mk a r i) < ky a 0 (mk a r j) from k.mpr e))] at this
      simp (disch := omega) only [↓bnd_s, ↓bnd2_s, ↓bnd3_s, ↓bnd4_s, ↓bnd5_s, ↓bndR_l, ↓bndR_r, ↓bndX_l, ↓bndX_r, bnd_s, bnd2_s, bnd3_s, bnd4_s, bnd5_s, bndR_l, bndR_r, bndX_l, bndX_r, nq_lt, nq_le, nq_inj, nq_add, nq_mul, nq_sub, nq_div, nq_neg1, nq_clamp, nq_ne1, nq_le1, ne1_lt, n1_lt0, n1_lt, n1_ne, nz0, nz1, nz2, nz3, nz4, nz5, nz6, nz8, nz10, nz31, nz32, nz50, nz400, nz800, nz3200, nz20000, nlt_f, nlt_t, nle_f, nle_t, neq_f, neq_t, gi_si_e, gi_si_n, gp_sp_e, gp_sp_n, gr_sr_e, gr_sr_n, gi_sp, gi_sr, gp_si, gp_sr, gr_si, gr_sp, upd_e, upd_n, un_e, un_n, an_sn_e, an_sn_n, an_sm, an_sv, am_sn, am_sm_e, am_sm_n, am_sv, ai_sn, ai_sm, ai_sv_e, ai_sv_n, reduceIte, or_false, false_or, or_true, true_or, or_self, and_true, true_and, and_false, false_and, not_true_eq_false, not_false_eq_true, h.mfa hr (show j < an a (10 + r) by omega), h.mfa hr hi, Int32.not_le.mpr e]
      rw [Nat.add_assoc]; exact this
    · rw [if_neg (by rw [decide_eq_true_eq]; exact fun q => e (k.mp q)), Nat.add_zero] at this
      simp (disch := omega) only [↓bnd_s, ↓bnd2_s, ↓bnd3_s, ↓bnd4_s, ↓bnd5_s, ↓bndR_l, ↓bndR_r, ↓bndX_l, ↓bndX_r, bnd_s, bnd2_s, bnd3_s, bnd4_s, bnd5_s, bndR_l, bndR_r, bndX_l, bndX_r, nq_lt, nq_le, nq_inj, nq_add, nq_mul, nq_sub, nq_div, nq_neg1, nq_clamp, nq_ne1, nq_le1, ne1_lt, n1_lt0, n1_lt, n1_ne, nz0, nz1, nz2, nz3, nz4, nz5, nz6, nz8, nz10, nz31, nz32, nz50, nz400, nz800, nz3200, nz20000, nlt_f, nlt_t, nle_f, nle_t, neq_f, neq_t, gi_si_e, gi_si_n, gp_sp_e, gp_sp_n, gr_sr_e, gr_sr_n, gi_sp, gi_sr, gp_si, gp_sr, gr_si, gr_sp, upd_e, upd_n, un_e, un_n, an_sn_e, an_sn_n, an_sm, an_sv, am_sn, am_sm_e, am_sm_n, am_sv, ai_sn, ai_sm, ai_sv_e, ai_sv_n, reduceIte, or_false, false_or, or_true, true_or, or_self, and_true, true_and, and_false, false_and, not_true_eq_false, not_false_eq_true, h.mfa hr (show j < an a (10 + r) by omega), h.mfa hr hi, Int32.not_lt.mp e]
      exact this
theorem wp_out (h : REL a σ τ) {r : Nat} (hr : r < 4) : ∀ (d : Nat) {fu i : Nat}, an a (10 + r) - i = d → d < fu → i ≤ an a (10 + r) →
    f_X11_wrongPairs_L17 (nI r) τ fu (nI (invs (ky a 0) (seg (mk a r) 0 i))) (nI i) = some (nI (invs (ky a 0) (seg (mk a r) 0 (an a (10 + r))))) := by
  have hn := h.n hr
  intro d
  induction d with
  | zero =>
    intro fu i hd hf hi
    obtain ⟨fu, rfl⟩ : ∃ f, fu = f + 1 := ⟨fu - 1, by omega⟩
    have e : i = an a (10 + r) := by omega
    subst e
    unfold f_X11_wrongPairs_L17; simp (disch := omega) only [↓bnd_s, ↓bnd2_s, ↓bnd3_s, ↓bnd4_s, ↓bnd5_s, ↓bndR_l, ↓bndR_r, ↓bndX_l, ↓bndX_r, bnd_s, bnd2_s, bnd3_s, bnd4_s, bnd5_s, bndR_l, bndR_r, bndX_l, bndX_r, nq_lt, nq_le, nq_inj, nq_add, nq_mul, nq_sub, nq_div, nq_neg1, nq_clamp, nq_ne1, nq_le1, ne1_lt, n1_lt0, n1_lt, n1_ne, nz0, nz1, nz2, nz3, nz4, nz5, nz6, nz8, nz10, nz31, nz32, nz50, nz400, nz800, nz3200, nz20000, nlt_f, nlt_t, nle_f, nle_t, neq_f, neq_t, gi_si_e, gi_si_n, gp_sp_e, gp_sp_n, gr_sr_e, gr_sr_n, gi_sp, gi_sr, gp_si, gp_sr, gr_si, gr_sp, upd_e, upd_n, un_e, un_n, an_sn_e, an_sn_n, an_sm, an_sv, am_sn, am_sm_e, am_sm_n, am_sv, ai_sn, ai_sm, ai_sv_e, ai_sv_n, reduceIte, or_false, false_or, or_true, true_or, or_self, and_true, true_and, and_false, false_and, not_true_eq_false, not_false_eq_true, h.mn hr]
  | succ d ih =>
    intro fu i hd hf hi
    obtain ⟨fu, rfl⟩ : ∃ f, fu = f + 1 := ⟨fu - 1, by omega⟩
    have := ih (fu := fu) (i := i + 1) (by omega) (by omega) (by omega)
    have w := wp_in h (c := invs (ky a 0) (seg (mk a r) 0 i)) hr (show i < an a (10 + r) by omega) _ (fu := FU) (j := 0) rfl (by unfold FU; omega) (by omega)
    rw [seg_0, List.countP_nil, Nat.add_zero] at w
    rw [seg_snoc, invs_app, crs_cons_r, crs_nil_r, Nat.zero_add, show invs (ky a 0) [mk a r i] = 0 from rfl, Nat.add_zero, Nat.add_zero] at this
    unfold f_X11_wrongPairs_L17
    simp (disch := omega) only [↓bnd_s, ↓bnd2_s, ↓bnd3_s, ↓bnd4_s, ↓bnd5_s, ↓bndR_l, ↓bndR_r, ↓bndX_l, ↓bndX_r, bnd_s, bnd2_s, bnd3_s, bnd4_s, bnd5_s, bndR_l, bndR_r, bndX_l, bndX_r, nq_lt, nq_le, nq_inj, nq_add, nq_mul, nq_sub, nq_div, nq_neg1, nq_clamp, nq_ne1, nq_le1, ne1_lt, n1_lt0, n1_lt, n1_ne, nz0, nz1, nz2, nz3, nz4, nz5, nz6, nz8, nz10, nz31, nz32, nz50, nz400, nz800, nz3200, nz20000, nlt_f, nlt_t, nle_f, nle_t, neq_f, neq_t, gi_si_e, gi_si_n, gp_sp_e, gp_sp_n, gr_sr_e, gr_sr_n, gi_sp, gi_sr, gp_si, gp_sr, gr_si, gr_sp, upd_e, upd_n, un_e, un_n, an_sn_e, an_sn_n, an_sm, an_sv, am_sn, am_sm_e, am_sm_n, am_sv, ai_sn, ai_sm, ai_sv_e, ai_sv_n, reduceIte, or_false, false_or, or_true, true_or, or_self, and_true, true_and, and_false, false_and, not_true_eq_false, not_false_eq_true, h.mn hr, w]
    exact this
theorem P_wrongPairs (h : REL a σ τ) (x : Int32) : AG [zI] (f_X10_wrongPairs x σ) (f_X11_wrongPairs x τ) := by
  rcases row_cases x with ⟨r, hr, rfl⟩ | ⟨hb, hb2, -⟩
  · obtain ⟨σ', M, M', k1, k2, k3, k9, k4⟩ := sortCopy_eq h hr
    have w := wp_out h hr _ (fu := FU) (i := 0) rfl (by have := h.n hr; unfold FU; omega) (by omega)
    rw [seg_0, show invs (ky a 0) [] = 0 from rfl] at w
    refine AG.ok (nI (invs (ky a 0) (seg (mk a r) 0 (an a (10 + r))))) ?_ ?_ (h.ir k2 (mIr_refl τ))
    · unfold f_X10_wrongPairs; rw [rowAt_ok hr, bndX_r, k1]; rfl
    · unfold f_X11_wrongPairs; rw [isRow_ok hr, bnd_s]; simp (disch := omega) only [↓bnd_s, ↓bnd2_s, ↓bnd3_s, ↓bnd4_s, ↓bnd5_s, ↓bndR_l, ↓bndR_r, ↓bndX_l, ↓bndX_r, bnd_s, bnd2_s, bnd3_s, bnd4_s, bnd5_s, bndR_l, bndR_r, bndX_l, bndX_r, nq_lt, nq_le, nq_inj, nq_add, nq_mul, nq_sub, nq_div, nq_neg1, nq_clamp, nq_ne1, nq_le1, ne1_lt, n1_lt0, n1_lt, n1_ne, nz0, nz1, nz2, nz3, nz4, nz5, nz6, nz8, nz10, nz31, nz32, nz50, nz400, nz800, nz3200, nz20000, nlt_f, nlt_t, nle_f, nle_t, neq_f, neq_t, gi_si_e, gi_si_n, gp_sp_e, gp_sp_n, gr_sr_e, gr_sr_n, gi_sp, gi_sr, gp_si, gp_sr, gr_si, gr_sp, upd_e, upd_n, un_e, un_n, an_sn_e, an_sn_n, an_sm, an_sv, am_sn, am_sm_e, am_sm_n, am_sv, ai_sn, ai_sm, ai_sv_e, ai_sv_n, reduceIte, or_false, false_or, or_true, true_or, or_self, and_true, true_and, and_false, false_and, not_true_eq_false, not_false_eq_true, w, told_eq]
  · refine AG.no (v := 0) 0 rfl ?_ ?_ h
    · unfold f_X10_wrongPairs; rw [hb]; rfl
    · unfold f_X11_wrongPairs; rw [hb2]; simp (disch := omega) only [↓bnd_s, ↓bnd2_s, ↓bnd3_s, ↓bnd4_s, ↓bnd5_s, ↓bndR_l, ↓bndR_r, ↓bndX_l, ↓bndX_r, bnd_s, bnd2_s, bnd3_s, bnd4_s, bnd5_s, bndR_l, bndR_r, bndX_l, bndX_r, nq_lt, nq_le, nq_inj, nq_add, nq_mul, nq_sub, nq_div, nq_neg1, nq_clamp, nq_ne1, nq_le1, ne1_lt, n1_lt0, n1_lt, n1_ne, nz0, nz1, nz2, nz3, nz4, nz5, nz6, nz8, nz10, nz31, nz32, nz50, nz400, nz800, nz3200, nz20000, nlt_f, nlt_t, nle_f, nle_t, neq_f, neq_t, gi_si_e, gi_si_n, gp_sp_e, gp_sp_n, gr_sr_e, gr_sr_n, gi_sp, gi_sr, gp_si, gp_sr, gr_si, gr_sp, upd_e, upd_n, un_e, un_n, an_sn_e, an_sn_n, an_sm, an_sv, am_sn, am_sm_e, am_sm_n, am_sv, ai_sn, ai_sm, ai_sv_e, ai_sv_n, reduceIte, or_false, false_or, or_true, true_or, or_self, and_true, true_and, and_false, false_and, not_true_eq_false, not_false_eq_true, refuse_eq]
/-- c keys stand in the list -/
def UQ (key : Int32 → Int) (l : List Int32) (c : Nat) : Prop := ∃ A : List Int, A.Nodup ∧ A.length = c ∧ ∀ k, k ∈ A ↔ ∃ x, x ∈ l ∧ key x = k
theorem UQ.uniq {key : Int32 → Int} {l l' : List Int32} {c c' : Nat} (h : UQ key l c) (h' : UQ key l' c') (e : ∀ x, x ∈ l ↔ x ∈ l') : c = c' := by
  obtain ⟨A, a1, a2, a3⟩ := h
  obtain ⟨B, b1, b2, b3⟩ := h'
  have h1 : A.length ≤ B.length := a1.length_le_of_subset fun k hk => by
    obtain ⟨x, hx, ex⟩ := (a3 k).mp hk
    exact (b3 k).mpr ⟨x, (e x).mp hx, ex⟩
  have h2 : B.length ≤ A.length := b1.length_le_of_subset fun k hk => by
    obtain ⟨x, hx, ex⟩ := (b3 k).mp hk
    exact (a3 k).mpr ⟨x, (e x).mpr hx, ex⟩
  omega
theorem UQ.nl (key : Int32 → Int) : UQ key [] 0 := ⟨[], List.nodup_nil, rfl, fun k => ⟨fun h => (nomatch h), fun ⟨_, h, _⟩ => (nomatch h)⟩⟩
theorem UQ.nw {key : Int32 → Int} {l : List Int32} {c : Nat} {x : Int32} (h : UQ key l c) (hx : ∀ y, y ∈ l → key y ≠ key x) : UQ key (l ++ [x]) (c + 1) := by
  obtain ⟨A, a1, a2, a3⟩ := h
  refine ⟨key x :: A, List.nodup_cons.mpr ⟨fun q => ?_, a1⟩, by rw [List.length_cons, a2], fun k => ⟨fun q => ?_, fun q => ?_⟩⟩
  · obtain ⟨y, hy, ey⟩ := (a3 _).mp q
    exact hx y hy ey
  · rcases List.mem_cons.mp q with q | q
    · exact ⟨x, List.mem_append_right _ List.mem_cons_self, q.symm⟩
    · obtain ⟨y, hy, ey⟩ := (a3 _).mp q
      exact ⟨y, List.mem_append_left _ hy, ey⟩
  · obtain ⟨y, hy, ey⟩ := q
    rcases List.mem_append.mp hy with hy | hy
    · exact List.mem_cons_of_mem _ ((a3 k).mpr ⟨y, hy, ey⟩)
    · rw [List.mem_singleton.mp hy] at ey
      rw [ey]; exact List.mem_cons_self
theorem UQ.od {key : Int32 → Int} {l : List Int32} {c : Nat} {x : Int32} (h : UQ key l c) (hx : ∃ y, y ∈ l ∧ key y = key x) : UQ key (l ++ [x]) c := by
  obtain ⟨A, a1, a2, a3⟩ := h
  refine ⟨A, a1, a2, fun k => ⟨fun q => ?_, fun q => ?_⟩⟩
  · obtain ⟨y, hy, ey⟩ := (a3 _).mp q
    exact ⟨y, List.mem_append_left _ hy, ey⟩
  · obtain ⟨y, hy, ey⟩ := q
    rcases List.mem_append.mp hy with hy | hy
    · exact (a3 k).mpr ⟨y, hy, ey⟩
    · rw [List.mem_singleton.mp hy] at ey
      obtain ⟨z, hz, ez⟩ := hx
      exact (a3 k).mpr ⟨z, hz, ez.trans ey⟩
theorem seg_mem' {f : Nat → Int32} {n k : Nat} (hk : k < n) : f k ∈ seg f 0 n := by
  have := List.mem_of_getElem? (seg_get f n 0 k hk)
  rw [Nat.zero_add] at this
  exact this
theorem tabAt (hm : an a 0 ≤ 20000) {σ' : St} (hC : CD a σ') {M M' p i S : Nat} (hS : SO σ' M M') (hg : gi σ' 59 = nI S) (h32 : S ≤ 3200) (hp : p < S) (hi : i < an a 0) (e : gr σ' M p = nI i) : f_X8_firstAt (nI p) σ' = some (ai a 0 i) := by
  unfold f_X8_firstAt
  simp (disch := omega) only [↓bnd_s, ↓bnd2_s, ↓bnd3_s, ↓bnd4_s, ↓bnd5_s, ↓bndR_l, ↓bndR_r, ↓bndX_l, ↓bndX_r, bnd_s, bnd2_s, bnd3_s, bnd4_s, bnd5_s, bndR_l, bndR_r, bndX_l, bndX_r, nq_lt, nq_le, nq_inj, nq_add, nq_mul, nq_sub, nq_div, nq_neg1, nq_clamp, nq_ne1, nq_le1, ne1_lt, n1_lt0, n1_lt, n1_ne, nz0, nz1, nz2, nz3, nz4, nz5, nz6, nz8, nz10, nz31, nz32, nz50, nz400, nz800, nz3200, nz20000, nlt_f, nlt_t, nle_f, nle_t, neq_f, neq_t, gi_si_e, gi_si_n, gp_sp_e, gp_sp_n, gr_sr_e, gr_sr_n, gi_sp, gi_sr, gp_si, gp_sr, gr_si, gr_sp, upd_e, upd_n, un_e, un_n, an_sn_e, an_sn_n, an_sm, an_sv, am_sn, am_sm_e, am_sm_n, am_sv, ai_sn, ai_sm, ai_sv_e, ai_sv_n, reduceIte, or_false, false_or, or_true, true_or, or_self, and_true, true_and, and_false, false_and, not_true_eq_false, not_false_eq_true, hg, hS.1, hS.m, e, hC.first hm hi]
theorem un_cls (hm : an a 0 ≤ 20000) {σ' : St} (hC : CD a σ') {M M' n j : Nat} (hS : SO σ' M M') (hn : n ≤ 800) (hg9 : gi σ' 59 = nI n) (hg : gi σ' (8 * j + 1) = nI n) (hv : ∀ q, q < n → ∃ i, i < an a 0 ∧ gr σ' M q = nI i) (hs : sortedK (ky a 0) (seg (gr σ' M) 0 n)) : ∀ (d : Nat) {fu p c : Nat}, n - p = d → d < fu → p ≤ n → UQ (ky a 0) (seg (gr σ' M) 0 p) c →
    ∃ c', f_X10_unlike_L17 j σ' fu (nI c) (nI p) = some (nI c') ∧ UQ (ky a 0) (seg (gr σ' M) 0 n) c' := by
  intro d
  induction d with
  | zero =>
    intro fu p c hd hf hp hu
    obtain ⟨fu, rfl⟩ : ∃ f, fu = f + 1 := ⟨fu - 1, by omega⟩
    have e : p = n := by omega
    subst e
    exact ⟨c, by unfold f_X10_unlike_L17; simp (disch := omega) only [↓bnd_s, ↓bnd2_s, ↓bnd3_s, ↓bnd4_s, ↓bnd5_s, ↓bndR_l, ↓bndR_r, ↓bndX_l, ↓bndX_r, bnd_s, bnd2_s, bnd3_s, bnd4_s, bnd5_s, bndR_l, bndR_r, bndX_l, bndX_r, nq_lt, nq_le, nq_inj, nq_add, nq_mul, nq_sub, nq_div, nq_neg1, nq_clamp, nq_ne1, nq_le1, ne1_lt, n1_lt0, n1_lt, n1_ne, nz0, nz1, nz2, nz3, nz4, nz5, nz6, nz8, nz10, nz31, nz32, nz50, nz400, nz800, nz3200, nz20000, nlt_f, nlt_t, nle_f, nle_t, neq_f, neq_t, gi_si_e, gi_si_n, gp_sp_e, gp_sp_n, gr_sr_e, gr_sr_n, gi_sp, gi_sr, gp_si, gp_sr, gr_si, gr_sp, upd_e, upd_n, un_e, un_n, an_sn_e, an_sn_n, an_sm, an_sv, am_sn, am_sm_e, am_sm_n, am_sv, ai_sn, ai_sm, ai_sv_e, ai_sv_n, reduceIte, or_false, false_or, or_true, true_or, or_self, and_true, true_and, and_false, false_and, not_true_eq_false, not_false_eq_true, hg], hu⟩
  | succ d ih =>
    intro fu p c hd hf hp hu
    obtain ⟨fu, rfl⟩ : ∃ f, fu = f + 1 := ⟨fu - 1, by omega⟩
    have step : ∀ c2, UQ (ky a 0) (seg (gr σ' M) 0 p ++ [gr σ' M p]) c2 → ∃ c', f_X10_unlike_L17 j σ' fu (nI c2) (nI (p + 1)) = some (nI c') ∧ UQ (ky a 0) (seg (gr σ' M) 0 n) c' := fun c2 h2 => ih (fu := fu) (p := p + 1) (c := c2) (by omega) (by omega) (by omega) (by rw [seg_snoc, Nat.zero_add]; exact h2)
    by_cases e0 : p = 0
    · subst e0
      obtain ⟨c', k1, k2⟩ := step (c + 1) (hu.nw fun y hy => (nomatch hy))
      refine ⟨c', ?_, k2⟩
      unfold f_X10_unlike_L17
      simp (disch := omega) only [↓bnd_s, ↓bnd2_s, ↓bnd3_s, ↓bnd4_s, ↓bnd5_s, ↓bndR_l, ↓bndR_r, ↓bndX_l, ↓bndX_r, bnd_s, bnd2_s, bnd3_s, bnd4_s, bnd5_s, bndR_l, bndR_r, bndX_l, bndX_r, nq_lt, nq_le, nq_inj, nq_add, nq_mul, nq_sub, nq_div, nq_neg1, nq_clamp, nq_ne1, nq_le1, ne1_lt, n1_lt0, n1_lt, n1_ne, nz0, nz1, nz2, nz3, nz4, nz5, nz6, nz8, nz10, nz31, nz32, nz50, nz400, nz800, nz3200, nz20000, nlt_f, nlt_t, nle_f, nle_t, neq_f, neq_t, gi_si_e, gi_si_n, gp_sp_e, gp_sp_n, gr_sr_e, gr_sr_n, gi_sp, gi_sr, gp_si, gp_sr, gr_si, gr_sp, upd_e, upd_n, un_e, un_n, an_sn_e, an_sn_n, an_sm, an_sv, am_sn, am_sm_e, am_sm_n, am_sv, ai_sn, ai_sm, ai_sv_e, ai_sv_n, reduceIte, or_false, false_or, or_true, true_or, or_self, and_true, true_and, and_false, false_and, not_true_eq_false, not_false_eq_true, hg]
      exact k1
    · obtain ⟨i, hi, ei⟩ := hv p (by omega)
      obtain ⟨i2, hi2, ei2⟩ := hv (p - 1) (by omega)
      have f1 := tabAt hm hC hS hg9 (by omega) (show p < n by omega) hi ei
      have f2 := tabAt hm hC hS hg9 (by omega) (show p - 1 < n by omega) hi2 ei2
      have k12 : ky a 0 (gr σ' M p) = (ai a 0 i).toInt := by rw [ei]; unfold ky; rw [if_pos rfl, nq_clamp (by omega)]
      have k22 : ky a 0 (gr σ' M (p - 1)) = (ai a 0 i2).toInt := by rw [ei2]; unfold ky; rw [if_pos rfl, nq_clamp (by omega)]
      by_cases e : ai a 0 i = ai a 0 i2
      · obtain ⟨c', k1, k2⟩ := step c (hu.od ⟨gr σ' M (p - 1), seg_mem' (by omega), by rw [k12, k22, e]⟩)
        refine ⟨c', ?_, k2⟩
        unfold f_X10_unlike_L17
        simp (disch := omega) only [↓bnd_s, ↓bnd2_s, ↓bnd3_s, ↓bnd4_s, ↓bnd5_s, ↓bndR_l, ↓bndR_r, ↓bndX_l, ↓bndX_r, bnd_s, bnd2_s, bnd3_s, bnd4_s, bnd5_s, bndR_l, bndR_r, bndX_l, bndX_r, nq_lt, nq_le, nq_inj, nq_add, nq_mul, nq_sub, nq_div, nq_neg1, nq_clamp, nq_ne1, nq_le1, ne1_lt, n1_lt0, n1_lt, n1_ne, nz0, nz1, nz2, nz3, nz4, nz5, nz6, nz8, nz10, nz31, nz32, nz50, nz400, nz800, nz3200, nz20000, nlt_f, nlt_t, nle_f, nle_t, neq_f, neq_t, gi_si_e, gi_si_n, gp_sp_e, gp_sp_n, gr_sr_e, gr_sr_n, gi_sp, gi_sr, gp_si, gp_sr, gr_si, gr_sp, upd_e, upd_n, un_e, un_n, an_sn_e, an_sn_n, an_sm, an_sv, am_sn, am_sm_e, am_sm_n, am_sv, ai_sn, ai_sm, ai_sv_e, ai_sv_n, reduceIte, or_false, false_or, or_true, true_or, or_self, and_true, true_and, and_false, false_and, not_true_eq_false, not_false_eq_true, hg, f1, f2, e]
        exact k1
      · obtain ⟨c', k1, k2⟩ := step (c + 1) (hu.nw fun y hy => by
          obtain ⟨q, hq, eq⟩ := seg_mem hy
          rw [Nat.zero_add] at eq
          have h1 : ky a 0 (gr σ' M (p - 1)) ≤ ky a 0 (gr σ' M p) := sk_get hs (by omega) (by omega)
          have h2 : ky a 0 (gr σ' M q) ≤ ky a 0 (gr σ' M (p - 1)) := by
            by_cases e5 : q = p - 1
            · rw [e5]; exact Int.le_refl _
            · exact sk_get hs (by omega) (by omega)
          have h3 : ky a 0 (gr σ' M (p - 1)) ≠ ky a 0 (gr σ' M p) := by
            rw [k12, k22]; exact fun z => e (Int32.toInt_inj.mp z.symm)
          rw [eq]; omega)
        refine ⟨c', ?_, k2⟩
        unfold f_X10_unlike_L17
        simp (disch := omega) only [↓bnd_s, ↓bnd2_s, ↓bnd3_s, ↓bnd4_s, ↓bnd5_s, ↓bndR_l, ↓bndR_r, ↓bndX_l, ↓bndX_r, bnd_s, bnd2_s, bnd3_s, bnd4_s, bnd5_s, bndR_l, bndR_r, bndX_l, bndX_r, nq_lt, nq_le, nq_inj, nq_add, nq_mul, nq_sub, nq_div, nq_neg1, nq_clamp, nq_ne1, nq_le1, ne1_lt, n1_lt0, n1_lt, n1_ne, nz0, nz1, nz2, nz3, nz4, nz5, nz6, nz8, nz10, nz31, nz32, nz50, nz400, nz800, nz3200, nz20000, nlt_f, nlt_t, nle_f, nle_t, neq_f, neq_t, gi_si_e, gi_si_n, gp_sp_e, gp_sp_n, gr_sr_e, gr_sr_n, gi_sp, gi_sr, gp_si, gp_sr, gr_si, gr_sp, upd_e, upd_n, un_e, un_n, an_sn_e, an_sn_n, an_sm, an_sv, am_sn, am_sm_e, am_sm_n, am_sv, ai_sn, ai_sm, ai_sv_e, ai_sv_n, reduceIte, or_false, false_or, or_true, true_or, or_self, and_true, true_and, and_false, false_and, not_true_eq_false, not_false_eq_true, hg, f1, f2, e]
        exact k1
theorem un_in (h : REL a σ τ) {r i : Nat} (hr : r < 4) (hi : i < an a (10 + r)) : ∀ (d : Nat) {fu j : Nat}, i - j = d → d < fu → j ≤ i →
    ∃ b, f_X11_unlike_L33 (nI r) (nI i) τ fu (nI 1) (nI j) = some (nI b) ∧ ((b = 1 ∧ ∀ q, j ≤ q → q < i → ai a 0 (am a r q) ≠ ai a 0 (am a r i)) ∨ (b = 0 ∧ ∃ q, q < i ∧ ai a 0 (am a r q) = ai a 0 (am a r i))) := by
  have hn := h.n hr
  intro d
  induction d with
  | zero =>
    intro fu j hd hf hj
    obtain ⟨fu, rfl⟩ : ∃ f, fu = f + 1 := ⟨fu - 1, by omega⟩
    refine ⟨1, ?_, Or.inl ⟨rfl, fun q h1 h2 => absurd h2 (by omega)⟩⟩
    unfold f_X11_unlike_L33; simp (disch := omega) only [↓bnd_s, ↓bnd2_s, ↓bnd3_s, ↓bnd4_s, ↓bnd5_s, ↓bndR_l, ↓bndR_r, ↓bndX_l, ↓bndX_r, bnd_s, bnd2_s, bnd3_s, bnd4_s, bnd5_s, bndR_l, bndR_r, bndX_l, bndX_r, nq_lt, nq_le, nq_inj, nq_add, nq_mul, nq_sub, nq_div, nq_neg1, nq_clamp, nq_ne1, nq_le1, ne1_lt, n1_lt0, n1_lt, n1_ne, nz0, nz1, nz2, nz3, nz4, nz5, nz6, nz8, nz10, nz31, nz32, nz50, nz400, nz800, nz3200, nz20000, nlt_f, nlt_t, nle_f, nle_t, neq_f, neq_t, gi_si_e, gi_si_n, gp_sp_e, gp_sp_n, gr_sr_e, gr_sr_n, gi_sp, gi_sr, gp_si, gp_sr, gr_si, gr_sp, upd_e, upd_n, un_e, un_n, an_sn_e, an_sn_n, an_sm, an_sv, am_sn, am_sm_e, am_sm_n, am_sv, ai_sn, ai_sm, ai_sv_e, ai_sv_n, reduceIte, or_false, false_or, or_true, true_or, or_self, and_true, true_and, and_false, false_and, not_true_eq_false, not_false_eq_true]
  | succ d ih =>
    intro fu j hd hf hj
    obtain ⟨fu, rfl⟩ : ∃ f, fu = f + 1 := ⟨fu - 1, by omega⟩
    by_cases e : ai a 0 (am a r j) = ai a 0 (am a r i)
    · refine ⟨0, ?_, Or.inr ⟨rfl, j, by omega, e⟩⟩
      obtain ⟨fu, rfl⟩ : ∃ f, fu = f + 1 := ⟨fu - 1, by omega⟩
      unfold f_X11_unlike_L33
      simp (disch := omega) only [↓bnd_s, ↓bnd2_s, ↓bnd3_s, ↓bnd4_s, ↓bnd5_s, ↓bndR_l, ↓bndR_r, ↓bndX_l, ↓bndX_r, bnd_s, bnd2_s, bnd3_s, bnd4_s, bnd5_s, bndR_l, bndR_r, bndX_l, bndX_r, nq_lt, nq_le, nq_inj, nq_add, nq_mul, nq_sub, nq_div, nq_neg1, nq_clamp, nq_ne1, nq_le1, ne1_lt, n1_lt0, n1_lt, n1_ne, nz0, nz1, nz2, nz3, nz4, nz5, nz6, nz8, nz10, nz31, nz32, nz50, nz400, nz800, nz3200, nz20000, nlt_f, nlt_t, nle_f, nle_t, neq_f, neq_t, gi_si_e, gi_si_n, gp_sp_e, gp_sp_n, gr_sr_e, gr_sr_n, gi_sp, gi_sr, gp_si, gp_sr, gr_si, gr_sp, upd_e, upd_n, un_e, un_n, an_sn_e, an_sn_n, an_sm, an_sv, am_sn, am_sm_e, am_sm_n, am_sv, ai_sn, ai_sm, ai_sv_e, ai_sv_n, reduceIte, or_false, false_or, or_true, true_or, or_self, and_true, true_and, and_false, false_and, not_true_eq_false, not_false_eq_true, h.mfa hr (show j < an a (10 + r) by omega), h.mfa hr hi, e]
      unfold f_X11_unlike_L33
      by_cases e2 : i ≤ j + 1
      · simp (disch := omega) only [↓bnd_s, ↓bnd2_s, ↓bnd3_s, ↓bnd4_s, ↓bnd5_s, ↓bndR_l, ↓bndR_r, ↓bndX_l, ↓bndX_r, bnd_s, bnd2_s, bnd3_s, bnd4_s, bnd5_s, bndR_l, bndR_r, bndX_l, bndX_r, nq_lt, nq_le, nq_inj, nq_add, nq_mul, nq_sub, nq_div, nq_neg1, nq_clamp, nq_ne1, nq_le1, ne1_lt, n1_lt0, n1_lt, n1_ne, nz0, nz1, nz2, nz3, nz4, nz5, nz6, nz8, nz10, nz31, nz32, nz50, nz400, nz800, nz3200, nz20000, nlt_f, nlt_t, nle_f, nle_t, neq_f, neq_t, gi_si_e, gi_si_n, gp_sp_e, gp_sp_n, gr_sr_e, gr_sr_n, gi_sp, gi_sr, gp_si, gp_sr, gr_si, gr_sp, upd_e, upd_n, un_e, un_n, an_sn_e, an_sn_n, an_sm, an_sv, am_sn, am_sm_e, am_sm_n, am_sv, ai_sn, ai_sm, ai_sv_e, ai_sv_n, reduceIte, or_false, false_or, or_true, true_or, or_self, and_true, true_and, and_false, false_and, not_true_eq_false, not_false_eq_true]
      · simp (disch := omega) only [↓bnd_s, ↓bnd2_s, ↓bnd3_s, ↓bnd4_s, ↓bnd5_s, ↓bndR_l, ↓bndR_r, ↓bndX_l, ↓bndX_r, bnd_s, bnd2_s, bnd3_s, bnd4_s, bnd5_s, bndR_l, bndR_r, bndX_l, bndX_r, nq_lt, nq_le, nq_inj, nq_add, nq_mul, nq_sub, nq_div, nq_neg1, nq_clamp, nq_ne1, nq_le1, ne1_lt, n1_lt0, n1_lt, n1_ne, nz0, nz1, nz2, nz3, nz4, nz5, nz6, nz8, nz10, nz31, nz32, nz50, nz400, nz800, nz3200, nz20000, nlt_f, nlt_t, nle_f, nle_t, neq_f, neq_t, gi_si_e, gi_si_n, gp_sp_e, gp_sp_n, gr_sr_e, gr_sr_n, gi_sp, gi_sr, gp_si, gp_sr, gr_si, gr_sp, upd_e, upd_n, un_e, un_n, an_sn_e, an_sn_n, an_sm, an_sv, am_sn, am_sm_e, am_sm_n, am_sv, ai_sn, ai_sm, ai_sv_e, ai_sv_n, reduceIte, or_false, false_or, or_true, true_or, or_self, and_true, true_and, and_false, false_and, not_true_eq_false, not_false_eq_true]
    · obtain ⟨b, k1, k2⟩ := ih (fu := fu) (j := j + 1) (by omega) (by omega) (by omega)
      refine ⟨b, ?_, ?_⟩
      · unfold f_X11_unlike_L33
        simp (disch := omega) only [↓bnd_s, ↓bnd2_s, ↓bnd3_s, ↓bnd4_s, ↓bnd5_s, ↓bndR_l, ↓bndR_r, ↓bndX_l, ↓bndX_r, bnd_s, bnd2_s, bnd3_s, bnd4_s, bnd5_s, bndR_l, bndR_r, bndX_l, bndX_r, nq_lt, nq_le, nq_inj, nq_add, nq_mul, nq_sub, nq_div, nq_neg1, nq_clamp, nq_ne1, nq_le1, ne1_lt, n1_lt0, n1_lt, n1_ne, nz0, nz1, nz2, nz3, nz4, nz5, nz6, nz8, nz10, nz31, nz32, nz50, nz400, nz800, nz3200, nz20000, nlt_f, nlt_t, nle_f, nle_t, neq_f, neq_t, gi_si_e, gi_si_n, gp_sp_e, gp_sp_n, gr_sr_e, gr_sr_n, gi_sp, gi_sr, gp_si, gp_sr, gr_si, gr_sp, upd_e, upd_n, un_e, un_n, an_sn_e, an_sn_n, an_sm, an_sv, am_sn, am_sm_e, am_sm_n, am_sv, ai_sn, ai_sm, ai_sv_e, ai_sv_n, reduceIte, or_false, false_or, or_true, true_or, or_self, and_true, true_and, and_false, false_and, not_true_eq_false, not_false_eq_true, h.mfa hr (show j < an a (10 + r) by omega), h.mfa hr hi, e]
        exact k1
      · rcases k2 with ⟨k2, k3⟩ | k2
        · refine Or.inl ⟨k2, fun q h1 h2 => ?_⟩
          by_cases e3 : q = j
          · rw [e3]; exact e
          · exact k3 q (by omega) h2
        · exact Or.inr k2
theorem un_ref (h : REL a σ τ) {r : Nat} (hr : r < 4) : ∀ (d : Nat) {fu i c : Nat}, an a (10 + r) - i = d → d < fu → i ≤ an a (10 + r) → UQ (ky a 0) (seg (mk a r) 0 i) c →
    ∃ c', f_X11_unlike_L17 (nI r) τ fu (nI c) (nI i) = some (nI c') ∧ UQ (ky a 0) (seg (mk a r) 0 (an a (10 + r))) c' := by
  have hn := h.n hr
  have hm := h.m
  have kk : ∀ q, q < an a (10 + r) → ky a 0 (mk a r q) = (ai a 0 (am a r q)).toInt := fun q hq => by
    have := h.lt hr hq
    unfold ky mk; rw [if_pos rfl, nq_clamp (by omega)]
  intro d
  induction d with
  | zero =>
    intro fu i c hd hf hi hu
    obtain ⟨fu, rfl⟩ : ∃ f, fu = f + 1 := ⟨fu - 1, by omega⟩
    have e : i = an a (10 + r) := by omega
    subst e
    exact ⟨c, by unfold f_X11_unlike_L17; simp (disch := omega) only [↓bnd_s, ↓bnd2_s, ↓bnd3_s, ↓bnd4_s, ↓bnd5_s, ↓bndR_l, ↓bndR_r, ↓bndX_l, ↓bndX_r, bnd_s, bnd2_s, bnd3_s, bnd4_s, bnd5_s, bndR_l, bndR_r, bndX_l, bndX_r, nq_lt, nq_le, nq_inj, nq_add, nq_mul, nq_sub, nq_div, nq_neg1, nq_clamp, nq_ne1, nq_le1, ne1_lt, n1_lt0, n1_lt, n1_ne, nz0, nz1, nz2, nz3, nz4, nz5, nz6, nz8, nz10, nz31, nz32, nz50, nz400, nz800, nz3200, nz20000, nlt_f, nlt_t, nle_f, nle_t, neq_f, neq_t, gi_si_e, gi_si_n, gp_sp_e, gp_sp_n, gr_sr_e, gr_sr_n, gi_sp, gi_sr, gp_si, gp_sr, gr_si, gr_sp, upd_e, upd_n, un_e, un_n, an_sn_e, an_sn_n, an_sm, an_sv, am_sn, am_sm_e, am_sm_n, am_sv, ai_sn, ai_sm, ai_sv_e, ai_sv_n, reduceIte, or_false, false_or, or_true, true_or, or_self, and_true, true_and, and_false, false_and, not_true_eq_false, not_false_eq_true, h.mn hr], hu⟩
  | succ d ih =>
    intro fu i c hd hf hi hu
    obtain ⟨fu, rfl⟩ : ∃ f, fu = f + 1 := ⟨fu - 1, by omega⟩
    obtain ⟨b, k1, k2⟩ := un_in h hr (show i < an a (10 + r) by omega) _ (fu := FU) (j := 0) rfl (by unfold FU; omega) (by omega)
    rcases k2 with ⟨rfl, k2⟩ | ⟨rfl, q, hq, eq⟩
    · obtain ⟨c', l1, l2⟩ := ih (fu := fu) (i := i + 1) (c := c + 1) (by omega) (by omega) (by omega) (by
        rw [seg_snoc, Nat.zero_add]
        refine hu.nw fun y hy => ?_
        obtain ⟨q, hq, eq⟩ := seg_mem hy
        rw [Nat.zero_add] at eq
        rw [eq, kk q (by omega), kk i (by omega)]
        exact fun z => k2 q (by omega) hq (Int32.toInt_inj.mp z))
      refine ⟨c', ?_, l2⟩
      unfold f_X11_unlike_L17
      simp (disch := omega) only [↓bnd_s, ↓bnd2_s, ↓bnd3_s, ↓bnd4_s, ↓bnd5_s, ↓bndR_l, ↓bndR_r, ↓bndX_l, ↓bndX_r, bnd_s, bnd2_s, bnd3_s, bnd4_s, bnd5_s, bndR_l, bndR_r, bndX_l, bndX_r, nq_lt, nq_le, nq_inj, nq_add, nq_mul, nq_sub, nq_div, nq_neg1, nq_clamp, nq_ne1, nq_le1, ne1_lt, n1_lt0, n1_lt, n1_ne, nz0, nz1, nz2, nz3, nz4, nz5, nz6, nz8, nz10, nz31, nz32, nz50, nz400, nz800, nz3200, nz20000, nlt_f, nlt_t, nle_f, nle_t, neq_f, neq_t, gi_si_e, gi_si_n, gp_sp_e, gp_sp_n, gr_sr_e, gr_sr_n, gi_sp, gi_sr, gp_si, gp_sr, gr_si, gr_sp, upd_e, upd_n, un_e, un_n, an_sn_e, an_sn_n, an_sm, an_sv, am_sn, am_sm_e, am_sm_n, am_sv, ai_sn, ai_sm, ai_sv_e, ai_sv_n, reduceIte, or_false, false_or, or_true, true_or, or_self, and_true, true_and, and_false, false_and, not_true_eq_false, not_false_eq_true, h.mn hr, k1]
      exact l1
    · obtain ⟨c', l1, l2⟩ := ih (fu := fu) (i := i + 1) (c := c) (by omega) (by omega) (by omega) (by
        rw [seg_snoc, Nat.zero_add]
        exact hu.od ⟨mk a r q, seg_mem' hq, by rw [kk q (by omega), kk i (by omega), eq]⟩)
      refine ⟨c', ?_, l2⟩
      unfold f_X11_unlike_L17
      simp (disch := omega) only [↓bnd_s, ↓bnd2_s, ↓bnd3_s, ↓bnd4_s, ↓bnd5_s, ↓bndR_l, ↓bndR_r, ↓bndX_l, ↓bndX_r, bnd_s, bnd2_s, bnd3_s, bnd4_s, bnd5_s, bndR_l, bndR_r, bndX_l, bndX_r, nq_lt, nq_le, nq_inj, nq_add, nq_mul, nq_sub, nq_div, nq_neg1, nq_clamp, nq_ne1, nq_le1, ne1_lt, n1_lt0, n1_lt, n1_ne, nz0, nz1, nz2, nz3, nz4, nz5, nz6, nz8, nz10, nz31, nz32, nz50, nz400, nz800, nz3200, nz20000, nlt_f, nlt_t, nle_f, nle_t, neq_f, neq_t, gi_si_e, gi_si_n, gp_sp_e, gp_sp_n, gr_sr_e, gr_sr_n, gi_sp, gi_sr, gp_si, gp_sr, gr_si, gr_sp, upd_e, upd_n, un_e, un_n, an_sn_e, an_sn_n, an_sm, an_sv, am_sn, am_sm_e, am_sm_n, am_sv, ai_sn, ai_sm, ai_sv_e, ai_sv_n, reduceIte, or_false, false_or, or_true, true_or, or_self, and_true, true_and, and_false, false_and, not_true_eq_false, not_false_eq_true, h.mn hr, k1, Nat.add_zero]
      exact l1
theorem P_unlike (h : REL a σ τ) (x : Int32) : AG [zI] (f_X10_unlike x σ) (f_X11_unlike x τ) := by
  rcases row_cases x with ⟨r, hr, rfl⟩ | ⟨hb, hb2, -⟩
  · have hn := h.n hr
    obtain ⟨σ', M, M', k1, k2, k3, k9, k4⟩ := sortCopy_eq h hr
    have hR := h.ir k2 (mIr_refl τ)
    have hv : ∀ q, q < an a (10 + r) → ∃ i, i < an a 0 ∧ gr σ' M q = nI i := fun q hq => by
      have h1 : gr σ' M q ∈ seg (gr σ' M) 0 (an a (10 + r)) := seg_mem' hq
      rw [k4] at h1
      obtain ⟨k, hk, ek⟩ := seg_mem (isrt_mem h1)
      rw [Nat.zero_add] at ek
      exact ⟨_, h.lt hr hk, ek⟩
    obtain ⟨c, c1, c2⟩ := un_cls h.m hR.cd k3 hn k9 (hR.cn hr) hv (by rw [k4]; exact (isrt_srt _ _ _ rfl).1) _ (fu := FU) (p := 0) rfl (by unfold FU; omega) (by omega) (UQ.nl _)
    obtain ⟨c', d1, d2⟩ := un_ref h hr _ (fu := FU) (i := 0) rfl (by unfold FU; omega) (by omega) (UQ.nl _)
    have e := c2.uniq d2 (fun x => by rw [k4]; exact (isrt_srt _ _ _ rfl).2.2.mem_iff)
    subst e
    refine AG.ok (nI c) ?_ ?_ hR
    · unfold f_X10_unlike; rw [rowAt_ok hr, bndX_r, k1, bnd2_s, nz0, c1]; rfl
    · unfold f_X11_unlike; rw [isRow_ok hr, bnd_s]; simp (disch := omega) only [↓bnd_s, ↓bnd2_s, ↓bnd3_s, ↓bnd4_s, ↓bnd5_s, ↓bndR_l, ↓bndR_r, ↓bndX_l, ↓bndX_r, bnd_s, bnd2_s, bnd3_s, bnd4_s, bnd5_s, bndR_l, bndR_r, bndX_l, bndX_r, nq_lt, nq_le, nq_inj, nq_add, nq_mul, nq_sub, nq_div, nq_neg1, nq_clamp, nq_ne1, nq_le1, ne1_lt, n1_lt0, n1_lt, n1_ne, nz0, nz1, nz2, nz3, nz4, nz5, nz6, nz8, nz10, nz31, nz32, nz50, nz400, nz800, nz3200, nz20000, nlt_f, nlt_t, nle_f, nle_t, neq_f, neq_t, gi_si_e, gi_si_n, gp_sp_e, gp_sp_n, gr_sr_e, gr_sr_n, gi_sp, gi_sr, gp_si, gp_sr, gr_si, gr_sp, upd_e, upd_n, un_e, un_n, an_sn_e, an_sn_n, an_sm, an_sv, am_sn, am_sm_e, am_sm_n, am_sv, ai_sn, ai_sm, ai_sv_e, ai_sv_n, reduceIte, or_false, false_or, or_true, true_or, or_self, and_true, true_and, and_false, false_and, not_true_eq_false, not_false_eq_true, d1, told_eq]
  · refine AG.no (v := 0) 0 rfl ?_ ?_ h
    · unfold f_X10_unlike; rw [hb]; rfl
    · unfold f_X11_unlike; rw [hb2]; simp (disch := omega) only [↓bnd_s, ↓bnd2_s, ↓bnd3_s, ↓bnd4_s, ↓bnd5_s, ↓bndR_l, ↓bndR_r, ↓bndX_l, ↓bndX_r, bnd_s, bnd2_s, bnd3_s, bnd4_s, bnd5_s, bndR_l, bndR_r, bndX_l, bndX_r, nq_lt, nq_le, nq_inj, nq_add, nq_mul, nq_sub, nq_div, nq_neg1, nq_clamp, nq_ne1, nq_le1, ne1_lt, n1_lt0, n1_lt, n1_ne, nz0, nz1, nz2, nz3, nz4, nz5, nz6, nz8, nz10, nz31, nz32, nz50, nz400, nz800, nz3200, nz20000, nlt_f, nlt_t, nle_f, nle_t, neq_f, neq_t, gi_si_e, gi_si_n, gp_sp_e, gp_sp_n, gr_sr_e, gr_sr_n, gi_sp, gi_sr, gp_si, gp_sr, gr_si, gr_sp, upd_e, upd_n, un_e, un_n, an_sn_e, an_sn_n, an_sm, an_sv, am_sn, am_sm_e, am_sm_n, am_sv, ai_sn, ai_sm, ai_sv_e, ai_sv_n, reduceIte, or_false, false_or, or_true, true_or, or_self, and_true, true_and, and_false, false_and, not_true_eq_false, not_false_eq_true, refuse_eq]
theorem mid_L {r n : Nat} (hr : r < 4) (hn : n ≤ 800) (hg : gr τ 6 r = nI n) : ∀ (d : Nat) {fu i : Nat}, n - i = d → d < fu → i ≤ n →
    f_X11_middle_L30 (nI r) fu (nI i) (sr τ 12 (wr (gr τ 12) 0 (seg (gr τ 4) (800 * r) i))) = some (sr τ 12 (wr (gr τ 12) 0 (seg (gr τ 4) (800 * r) n))) := by
  intro d
  induction d with
  | zero =>
    intro fu i hd hf hi
    obtain ⟨fu, rfl⟩ : ∃ f, fu = f + 1 := ⟨fu - 1, by omega⟩
    have e : i = n := by omega
    subst e
    unfold f_X11_middle_L30; simp (disch := omega) only [↓bnd_s, ↓bnd2_s, ↓bnd3_s, ↓bnd4_s, ↓bnd5_s, ↓bndR_l, ↓bndR_r, ↓bndX_l, ↓bndX_r, bnd_s, bnd2_s, bnd3_s, bnd4_s, bnd5_s, bndR_l, bndR_r, bndX_l, bndX_r, nq_lt, nq_le, nq_inj, nq_add, nq_mul, nq_sub, nq_div, nq_neg1, nq_clamp, nq_ne1, nq_le1, ne1_lt, n1_lt0, n1_lt, n1_ne, nz0, nz1, nz2, nz3, nz4, nz5, nz6, nz8, nz10, nz31, nz32, nz50, nz400, nz800, nz3200, nz20000, nlt_f, nlt_t, nle_f, nle_t, neq_f, neq_t, gi_si_e, gi_si_n, gp_sp_e, gp_sp_n, gr_sr_e, gr_sr_n, gi_sp, gi_sr, gp_si, gp_sr, gr_si, gr_sp, upd_e, upd_n, un_e, un_n, an_sn_e, an_sn_n, an_sm, an_sv, am_sn, am_sm_e, am_sm_n, am_sv, ai_sn, ai_sm, ai_sv_e, ai_sv_n, reduceIte, or_false, false_or, or_true, true_or, or_self, and_true, true_and, and_false, false_and, not_true_eq_false, not_false_eq_true, hg]
  | succ d ih =>
    intro fu i hd hf hi
    obtain ⟨fu, rfl⟩ : ∃ f, fu = f + 1 := ⟨fu - 1, by omega⟩
    have := ih (fu := fu) (i := i + 1) (by omega) (by omega) (by omega)
    rw [← wr_seg_s, Nat.zero_add] at this
    unfold f_X11_middle_L30
    simp (disch := omega) only [↓bnd_s, ↓bnd2_s, ↓bnd3_s, ↓bnd4_s, ↓bnd5_s, ↓bndR_l, ↓bndR_r, ↓bndX_l, ↓bndX_r, bnd_s, bnd2_s, bnd3_s, bnd4_s, bnd5_s, bndR_l, bndR_r, bndX_l, bndX_r, nq_lt, nq_le, nq_inj, nq_add, nq_mul, nq_sub, nq_div, nq_neg1, nq_clamp, nq_ne1, nq_le1, ne1_lt, n1_lt0, n1_lt, n1_ne, nz0, nz1, nz2, nz3, nz4, nz5, nz6, nz8, nz10, nz31, nz32, nz50, nz400, nz800, nz3200, nz20000, nlt_f, nlt_t, nle_f, nle_t, neq_f, neq_t, gi_si_e, gi_si_n, gp_sp_e, gp_sp_n, gr_sr_e, gr_sr_n, gi_sp, gi_sr, gp_si, gp_sr, gr_si, gr_sp, upd_e, upd_n, un_e, un_n, an_sn_e, an_sn_n, an_sm, an_sv, am_sn, am_sm_e, am_sm_n, am_sv, ai_sn, ai_sm, ai_sv_e, ai_sv_n, reduceIte, or_false, false_or, or_true, true_or, or_self, and_true, true_and, and_false, false_and, not_true_eq_false, not_false_eq_true, hg, sr_sr]
    exact this
theorem load_L {r n : Nat} (hr : r < 4) (hn : n ≤ 800) (hg : gr τ 6 r = nI n) : ∀ (d : Nat) {fu i : Nat}, n - i = d → d < fu → i ≤ n →
    f_X11_loads_L2 (nI r) fu (nI i) (sr τ 12 (wr (gr τ 12) 0 (seg (gr τ 4) (800 * r) i))) = some (sr τ 12 (wr (gr τ 12) 0 (seg (gr τ 4) (800 * r) n))) := by
  intro d
  induction d with
  | zero =>
    intro fu i hd hf hi
    obtain ⟨fu, rfl⟩ : ∃ f, fu = f + 1 := ⟨fu - 1, by omega⟩
    have e : i = n := by omega
    subst e
    unfold f_X11_loads_L2; simp (disch := omega) only [↓bnd_s, ↓bnd2_s, ↓bnd3_s, ↓bnd4_s, ↓bnd5_s, ↓bndR_l, ↓bndR_r, ↓bndX_l, ↓bndX_r, bnd_s, bnd2_s, bnd3_s, bnd4_s, bnd5_s, bndR_l, bndR_r, bndX_l, bndX_r, nq_lt, nq_le, nq_inj, nq_add, nq_mul, nq_sub, nq_div, nq_neg1, nq_clamp, nq_ne1, nq_le1, ne1_lt, n1_lt0, n1_lt, n1_ne, nz0, nz1, nz2, nz3, nz4, nz5, nz6, nz8, nz10, nz31, nz32, nz50, nz400, nz800, nz3200, nz20000, nlt_f, nlt_t, nle_f, nle_t, neq_f, neq_t, gi_si_e, gi_si_n, gp_sp_e, gp_sp_n, gr_sr_e, gr_sr_n, gi_sp, gi_sr, gp_si, gp_sr, gr_si, gr_sp, upd_e, upd_n, un_e, un_n, an_sn_e, an_sn_n, an_sm, an_sv, am_sn, am_sm_e, am_sm_n, am_sv, ai_sn, ai_sm, ai_sv_e, ai_sv_n, reduceIte, or_false, false_or, or_true, true_or, or_self, and_true, true_and, and_false, false_and, not_true_eq_false, not_false_eq_true, hg]
  | succ d ih =>
    intro fu i hd hf hi
    obtain ⟨fu, rfl⟩ : ∃ f, fu = f + 1 := ⟨fu - 1, by omega⟩
    have := ih (fu := fu) (i := i + 1) (by omega) (by omega) (by omega)
    rw [← wr_seg_s, Nat.zero_add] at this
    unfold f_X11_loads_L2
    simp (disch := omega) only [↓bnd_s, ↓bnd2_s, ↓bnd3_s, ↓bnd4_s, ↓bnd5_s, ↓bndR_l, ↓bndR_r, ↓bndX_l, ↓bndX_r, bnd_s, bnd2_s, bnd3_s, bnd4_s, bnd5_s, bndR_l, bndR_r, bndX_l, bndX_r, nq_lt, nq_le, nq_inj, nq_add, nq_mul, nq_sub, nq_div, nq_neg1, nq_clamp, nq_ne1, nq_le1, ne1_lt, n1_lt0, n1_lt, n1_ne, nz0, nz1, nz2, nz3, nz4, nz5, nz6, nz8, nz10, nz31, nz32, nz50, nz400, nz800, nz3200, nz20000, nlt_f, nlt_t, nle_f, nle_t, neq_f, neq_t, gi_si_e, gi_si_n, gp_sp_e, gp_sp_n, gr_sr_e, gr_sr_n, gi_sp, gi_sr, gp_si, gp_sr, gr_si, gr_sp, upd_e, upd_n, un_e, un_n, an_sn_e, an_sn_n, an_sm, an_sv, am_sn, am_sm_e, am_sm_n, am_sv, ai_sn, ai_sm, ai_sv_e, ai_sv_n, reduceIte, or_false, false_or, or_true, true_or, or_self, and_true, true_and, and_false, false_and, not_true_eq_false, not_false_eq_true, hg, sr_sr]
    exact this
theorem P_middle (h : REL a σ τ) (x : Int32) : AG [zI, zNS] (f_X10_middle x σ) (f_X11_middle x τ) := by
  rcases row_cases x with ⟨r, hr, rfl⟩ | ⟨hb, hb2, -⟩
  · have hn := h.n hr
    have hm := h.m
    by_cases e0 : an a (10 + r) = 0
    · refine AG.no (v := 0) 1 rfl ?_ ?_ h
      · unfold f_X10_middle; rw [rowAt_ok hr, bndX_r]; simp (disch := omega) only [↓bnd_s, ↓bnd2_s, ↓bnd3_s, ↓bnd4_s, ↓bnd5_s, ↓bndR_l, ↓bndR_r, ↓bndX_l, ↓bndX_r, bnd_s, bnd2_s, bnd3_s, bnd4_s, bnd5_s, bndR_l, bndR_r, bndX_l, bndX_r, nq_lt, nq_le, nq_inj, nq_add, nq_mul, nq_sub, nq_div, nq_neg1, nq_clamp, nq_ne1, nq_le1, ne1_lt, n1_lt0, n1_lt, n1_ne, nz0, nz1, nz2, nz3, nz4, nz5, nz6, nz8, nz10, nz31, nz32, nz50, nz400, nz800, nz3200, nz20000, nlt_f, nlt_t, nle_f, nle_t, neq_f, neq_t, gi_si_e, gi_si_n, gp_sp_e, gp_sp_n, gr_sr_e, gr_sr_n, gi_sp, gi_sr, gp_si, gp_sr, gr_si, gr_sp, upd_e, upd_n, un_e, un_n, an_sn_e, an_sn_n, an_sm, an_sv, am_sn, am_sm_e, am_sm_n, am_sv, ai_sn, ai_sm, ai_sv_e, ai_sv_n, reduceIte, or_false, false_or, or_true, true_or, or_self, and_true, true_and, and_false, false_and, not_true_eq_false, not_false_eq_true, h.cn hr, e0]; rfl
      · unfold f_X11_middle; rw [isRow_ok hr, bnd_s]; simp (disch := omega) only [↓bnd_s, ↓bnd2_s, ↓bnd3_s, ↓bnd4_s, ↓bnd5_s, ↓bndR_l, ↓bndR_r, ↓bndX_l, ↓bndX_r, bnd_s, bnd2_s, bnd3_s, bnd4_s, bnd5_s, bndR_l, bndR_r, bndX_l, bndX_r, nq_lt, nq_le, nq_inj, nq_add, nq_mul, nq_sub, nq_div, nq_neg1, nq_clamp, nq_ne1, nq_le1, ne1_lt, n1_lt0, n1_lt, n1_ne, nz0, nz1, nz2, nz3, nz4, nz5, nz6, nz8, nz10, nz31, nz32, nz50, nz400, nz800, nz3200, nz20000, nlt_f, nlt_t, nle_f, nle_t, neq_f, neq_t, gi_si_e, gi_si_n, gp_sp_e, gp_sp_n, gr_sr_e, gr_sr_n, gi_sp, gi_sr, gp_si, gp_sr, gr_si, gr_sp, upd_e, upd_n, un_e, un_n, an_sn_e, an_sn_n, an_sm, an_sv, am_sn, am_sm_e, am_sm_n, am_sv, ai_sn, ai_sm, ai_sv_e, ai_sv_n, reduceIte, or_false, false_or, or_true, true_or, or_self, and_true, true_and, and_false, false_and, not_true_eq_false, not_false_eq_true, h.mn hr, e0, refuse_eq]
    · obtain ⟨σ', M, M', k1, k2, k3, k9, k4⟩ := sortCopy_eq h hr
      have hR := h.ir k2 (mIr_refl τ)
      have c1 := mid_L (τ := τ) hr hn (h.mn hr) _ (fu := FU) (i := 0) rfl (by unfold FU; omega) (by omega)
      rw [seg_0, wr_nil, sr_id] at c1
      obtain ⟨X, hX⟩ : ∃ z, z = wr (gr τ 12) 0 (seg (gr τ 4) (800 * r) (an a (10 + r))) := ⟨_, rfl⟩
      rw [← hX] at c1
      have hat : ∀ k, k < an a (10 + r) → X k = mk a r k := fun k hk => by
        have := wr_at (gr τ 12) (gr τ 4) 0 (800 * r) _ k hk
        rw [Nat.zero_add, ← hX] at this
        rw [this]; exact h.mmk hr hk
      have hseg : seg X 0 (an a (10 + r)) = seg (mk a r) 0 (an a (10 + r)) := seg_congr fun k hk => by rw [Nat.zero_add]; exact hat k hk
      have e12 : gr (sr τ 12 X) 12 = X := gr_sr_e _ _ rfl
      obtain ⟨W, B, w1, w2, w3⟩ := sorts_eq hm (t := 0) (by omega) (n := an a (10 + r)) (by omega) (τ := sr τ 12 X) (h.md.fr rfl (by simp (disch := omega) only [gi_si_e, gi_si_n, gp_sp_e, gp_sp_n, gr_sr_e, gr_sr_n, gi_sp, gi_sr, gp_si, gp_sr, gr_si, gr_sp, upd_e, upd_n, un_e, un_n, an_sn_e, an_sn_n, an_sm, an_sv, am_sn, am_sm_e, am_sm_n, am_sv, ai_sn, ai_sm, ai_sv_e, ai_sv_n, reduceIte, or_false, false_or, or_true, true_or, or_self, and_true, true_and, and_false, false_and, not_true_eq_false, not_false_eq_true]) (by simp (disch := omega) only [gi_si_e, gi_si_n, gp_sp_e, gp_sp_n, gr_sr_e, gr_sr_n, gi_sp, gi_sr, gp_si, gp_sr, gr_si, gr_sp, upd_e, upd_n, un_e, un_n, an_sn_e, an_sn_n, an_sm, an_sv, am_sn, am_sm_e, am_sm_n, am_sv, ai_sn, ai_sm, ai_sv_e, ai_sv_n, reduceIte, or_false, false_or, or_true, true_or, or_self, and_true, true_and, and_false, false_and, not_true_eq_false, not_false_eq_true])) (fun q hq => by rw [e12, hat q hq]; exact ⟨_, h.lt hr hq, rfl⟩)
      rw [e12, hseg] at w2
      obtain ⟨p, hp⟩ : ∃ p, p = (an a (10 + r) - 1) / 2 := ⟨_, rfl⟩
      have hpn : p < an a (10 + r) := by omega
      obtain ⟨i, hi, ei⟩ := w3 p hpn
      have hT : gr σ' M p = nI i := by
        have q1 := seg_get (gr σ' M) _ 0 p hpn
        have q2 := seg_get W _ 0 p hpn
        rw [k4, ← w2, q2, Nat.zero_add] at q1
        rw [← Option.some.inj q1]; exact ei
      have f1 := tabAt hm hR.cd k3 k9 (by omega) hpn hi hT
      refine AG.ok (τ' := sr (sr (sr τ 12 X) 13 B) 12 W) (a' := a) (ai a 0 i) ?_ ?_ (h.ir k2 ⟨rfl, rfl, rfl, by simp (disch := omega) only [gi_si_e, gi_si_n, gp_sp_e, gp_sp_n, gr_sr_e, gr_sr_n, gi_sp, gi_sr, gp_si, gp_sr, gr_si, gr_sp, upd_e, upd_n, un_e, un_n, an_sn_e, an_sn_n, an_sm, an_sv, am_sn, am_sm_e, am_sm_n, am_sv, ai_sn, ai_sm, ai_sv_e, ai_sv_n, reduceIte, or_false, false_or, or_true, true_or, or_self, and_true, true_and, and_false, false_and, not_true_eq_false, not_false_eq_true], by simp (disch := omega) only [gi_si_e, gi_si_n, gp_sp_e, gp_sp_n, gr_sr_e, gr_sr_n, gi_sp, gi_sr, gp_si, gp_sr, gr_si, gr_sp, upd_e, upd_n, un_e, un_n, an_sn_e, an_sn_n, an_sm, an_sv, am_sn, am_sm_e, am_sm_n, am_sv, ai_sn, ai_sm, ai_sv_e, ai_sv_n, reduceIte, or_false, false_or, or_true, true_or, or_self, and_true, true_and, and_false, false_and, not_true_eq_false, not_false_eq_true], by simp (disch := omega) only [gi_si_e, gi_si_n, gp_sp_e, gp_sp_n, gr_sr_e, gr_sr_n, gi_sp, gi_sr, gp_si, gp_sr, gr_si, gr_sp, upd_e, upd_n, un_e, un_n, an_sn_e, an_sn_n, an_sm, an_sv, am_sn, am_sm_e, am_sm_n, am_sv, ai_sn, ai_sm, ai_sv_e, ai_sv_n, reduceIte, or_false, false_or, or_true, true_or, or_self, and_true, true_and, and_false, false_and, not_true_eq_false, not_false_eq_true], by simp (disch := omega) only [gi_si_e, gi_si_n, gp_sp_e, gp_sp_n, gr_sr_e, gr_sr_n, gi_sp, gi_sr, gp_si, gp_sr, gr_si, gr_sp, upd_e, upd_n, un_e, un_n, an_sn_e, an_sn_n, an_sm, an_sv, am_sn, am_sm_e, am_sm_n, am_sv, ai_sn, ai_sm, ai_sv_e, ai_sv_n, reduceIte, or_false, false_or, or_true, true_or, or_self, and_true, true_and, and_false, false_and, not_true_eq_false, not_false_eq_true], by simp (disch := omega) only [gi_si_e, gi_si_n, gp_sp_e, gp_sp_n, gr_sr_e, gr_sr_n, gi_sp, gi_sr, gp_si, gp_sr, gr_si, gr_sp, upd_e, upd_n, un_e, un_n, an_sn_e, an_sn_n, an_sm, an_sv, am_sn, am_sm_e, am_sm_n, am_sv, ai_sn, ai_sm, ai_sv_e, ai_sv_n, reduceIte, or_false, false_or, or_true, true_or, or_self, and_true, true_and, and_false, false_and, not_true_eq_false, not_false_eq_true], by simp (disch := omega) only [gi_si_e, gi_si_n, gp_sp_e, gp_sp_n, gr_sr_e, gr_sr_n, gi_sp, gi_sr, gp_si, gp_sr, gr_si, gr_sp, upd_e, upd_n, un_e, un_n, an_sn_e, an_sn_n, an_sm, an_sv, am_sn, am_sm_e, am_sm_n, am_sv, ai_sn, ai_sm, ai_sv_e, ai_sv_n, reduceIte, or_false, false_or, or_true, true_or, or_self, and_true, true_and, and_false, false_and, not_true_eq_false, not_false_eq_true], by simp (disch := omega) only [gi_si_e, gi_si_n, gp_sp_e, gp_sp_n, gr_sr_e, gr_sr_n, gi_sp, gi_sr, gp_si, gp_sr, gr_si, gr_sp, upd_e, upd_n, un_e, un_n, an_sn_e, an_sn_n, an_sm, an_sv, am_sn, am_sm_e, am_sm_n, am_sv, ai_sn, ai_sm, ai_sv_e, ai_sv_n, reduceIte, or_false, false_or, or_true, true_or, or_self, and_true, true_and, and_false, false_and, not_true_eq_false, not_false_eq_true]⟩)
      · unfold f_X10_middle; rw [rowAt_ok hr, bndX_r]; simp (disch := omega) only [↓bnd_s, ↓bnd2_s, ↓bnd3_s, ↓bnd4_s, ↓bnd5_s, ↓bndR_l, ↓bndR_r, ↓bndX_l, ↓bndX_r, bnd_s, bnd2_s, bnd3_s, bnd4_s, bnd5_s, bndR_l, bndR_r, bndX_l, bndX_r, nq_lt, nq_le, nq_inj, nq_add, nq_mul, nq_sub, nq_div, nq_neg1, nq_clamp, nq_ne1, nq_le1, ne1_lt, n1_lt0, n1_lt, n1_ne, nz0, nz1, nz2, nz3, nz4, nz5, nz6, nz8, nz10, nz31, nz32, nz50, nz400, nz800, nz3200, nz20000, nlt_f, nlt_t, nle_f, nle_t, neq_f, neq_t, gi_si_e, gi_si_n, gp_sp_e, gp_sp_n, gr_sr_e, gr_sr_n, gi_sp, gi_sr, gp_si, gp_sr, gr_si, gr_sp, upd_e, upd_n, un_e, un_n, an_sn_e, an_sn_n, an_sm, an_sv, am_sn, am_sm_e, am_sm_n, am_sv, ai_sn, ai_sm, ai_sv_e, ai_sv_n, reduceIte, or_false, false_or, or_true, true_or, or_self, and_true, true_and, and_false, false_and, not_true_eq_false, not_false_eq_true, h.cn hr, hR.cn hr, k1, ← hp, f1]
      · unfold f_X11_middle; rw [isRow_ok hr, bnd_s]; simp (disch := omega) only [↓bnd_s, ↓bnd2_s, ↓bnd3_s, ↓bnd4_s, ↓bnd5_s, ↓bndR_l, ↓bndR_r, ↓bndX_l, ↓bndX_r, bnd_s, bnd2_s, bnd3_s, bnd4_s, bnd5_s, bndR_l, bndR_r, bndX_l, bndX_r, nq_lt, nq_le, nq_inj, nq_add, nq_mul, nq_sub, nq_div, nq_neg1, nq_clamp, nq_ne1, nq_le1, ne1_lt, n1_lt0, n1_lt, n1_ne, nz0, nz1, nz2, nz3, nz4, nz5, nz6, nz8, nz10, nz31, nz32, nz50, nz400, nz800, nz3200, nz20000, nlt_f, nlt_t, nle_f, nle_t, neq_f, neq_t, gi_si_e, gi_si_n, gp_sp_e, gp_sp_n, gr_sr_e, gr_sr_n, gi_sp, gi_sr, gp_si, gp_sr, gr_si, gr_sp, upd_e, upd_n, un_e, un_n, an_sn_e, an_sn_n, an_sm, an_sv, am_sn, am_sm_e, am_sm_n, am_sv, ai_sn, ai_sm, ai_sv_e, ai_sv_n, reduceIte, or_false, false_or, or_true, true_or, or_self, and_true, true_and, and_false, false_and, not_true_eq_false, not_false_eq_true, h.mn hr, c1, w1, ← hp, ei, h.mf hi, told_eq]
  · refine AG.no (v := 0) 0 rfl ?_ ?_ h
    · unfold f_X10_middle; rw [hb]; rfl
    · unfold f_X11_middle; rw [hb2]; simp (disch := omega) only [↓bnd_s, ↓bnd2_s, ↓bnd3_s, ↓bnd4_s, ↓bnd5_s, ↓bndR_l, ↓bndR_r, ↓bndX_l, ↓bndX_r, bnd_s, bnd2_s, bnd3_s, bnd4_s, bnd5_s, bndR_l, bndR_r, bndX_l, bndX_r, nq_lt, nq_le, nq_inj, nq_add, nq_mul, nq_sub, nq_div, nq_neg1, nq_clamp, nq_ne1, nq_le1, ne1_lt, n1_lt0, n1_lt, n1_ne, nz0, nz1, nz2, nz3, nz4, nz5, nz6, nz8, nz10, nz31, nz32, nz50, nz400, nz800, nz3200, nz20000, nlt_f, nlt_t, nle_f, nle_t, neq_f, neq_t, gi_si_e, gi_si_n, gp_sp_e, gp_sp_n, gr_sr_e, gr_sr_n, gi_sp, gi_sr, gp_si, gp_sr, gr_si, gr_sp, upd_e, upd_n, un_e, un_n, an_sn_e, an_sn_n, an_sm, an_sv, am_sn, am_sm_e, am_sm_n, am_sv, ai_sn, ai_sm, ai_sv_e, ai_sv_n, reduceIte, or_false, false_or, or_true, true_or, or_self, and_true, true_and, and_false, false_and, not_true_eq_false, not_false_eq_true, refuse_eq]
end AK
