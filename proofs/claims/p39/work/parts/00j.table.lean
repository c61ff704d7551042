/-! parts of rows go onto the table and back; a part of a row is sorted in the class -/
theorem sr_si (σ : St) (k : Nat) (v : Int32) (j : Nat) (f : Nat → Int32) : sr (si σ k v) j f = si (sr σ j f) k v := rfl
theorem upd_id {f : Nat → Int32} {k : Nat} {x : Int32} (h : f k = x) : upd f k x = f := by
  funext q
  by_cases e : q = k
  · rw [upd_e _ _ e, e, h]
  · rw [upd_n _ _ e]
theorem wr_snoc (g : Nat → Int32) (p : Nat) (l : List Int32) (x : Int32) : upd (wr g p l) (p + l.length) x = wr g p (l ++ [x]) := by
  funext q
  by_cases e : q = p + l.length
  · rw [upd_e _ _ e, wr_in (x := x) _ (by omega) (by rw [e, Nat.add_sub_cancel_left, List.getElem?_append_right (Nat.le_refl _), Nat.sub_self]; rfl)]
  · rw [upd_n _ _ e]
    by_cases h : q < p ∨ p + l.length < q
    · rw [wr_out _ (by omega), wr_out _ (by rw [List.length_append, List.length_singleton]; omega)]
    · have h3 : q - p < l.length := by omega
      unfold wr
      rw [if_pos (by omega), if_pos (by omega), List.getElem?_append_left h3]
theorem wr_seg_s (g f : Nat → Int32) (p i n : Nat) : upd (wr g p (seg f i n)) (p + n) (f (i + n)) = wr g p (seg f i (n + 1)) := by
  rw [seg_snoc, ← wr_snoc, seg_len]
theorem wr_at (g f : Nat → Int32) (p i n k : Nat) (hk : k < n) : wr g p (seg f i n) (p + k) = f (i + k) :=
  wr_in _ (by omega) (by rw [Nat.add_sub_cancel_left, seg_get f n i k hk])
theorem dif_comm (f g : Nat → Int32) : ∀ n, dif f g n = dif g f n
  | 0 => rfl
  | n + 1 => by
    rw [dif_s, dif_s, dif_comm f g n]
    by_cases e : f n = g n
    · rw [if_pos e, if_pos e.symm]
    · rw [if_neg e, if_neg (fun q => e q.symm)]
theorem dif_add (f g : Nat → Int32) (m : Nat) : ∀ n, dif f g (m + n) = dif f g m + dif (fun k => f (m + k)) (fun k => g (m + k)) n
  | 0 => rfl
  | n + 1 => by
    rw [← Nat.add_assoc, dif_s, dif_s, dif_add f g m n]
    omega
theorem dif_0 {f g : Nat → Int32} : ∀ {n : Nat}, (∀ k, k < n → f k = g k) → dif f g n = 0
  | 0, _ => rfl
  | n + 1, h => by rw [dif_s, dif_0 (fun k hk => h k (by omega)), if_pos (h n (by omega))]
theorem dif_0i {f g : Nat → Int32} : ∀ {n : Nat}, dif f g n = 0 → ∀ k, k < n → f k = g k
  | 0, _, k, hk => absurd hk (by omega)
  | n + 1, h, k, hk => by
    rw [dif_s] at h
    have h1 : dif f g n = 0 := by omega
    by_cases e : k = n
    · subst e
      by_cases e2 : f k = g k
      · exact e2
      · rw [if_neg e2] at h; omega
    · exact dif_0i h1 k (by omega)
/-- what a sorted part leaves in the class: F is the row's marks then -/
def pF (j : Nat) (F : Nat → Int32) (σ σ' : St) : Prop := (∀ k, k ≠ 59 → gi σ' k = gi σ k) ∧ (∀ k, k ≠ 57 → k ≠ 58 → gp σ' k = gp σ k) ∧ (∃ M M', SO σ' M M') ∧ gr σ' (j + 16) = F ∧ ∀ i, i ≠ 8 → i ≠ 9 → i ≠ j + 16 → gr σ' i = gr σ i
section TB
variable {a : AS}
theorem take_L {j : Nat} (hj : 16 ≤ j) {e m m' : Nat} (he : e ≤ 800) : ∀ (d : Nat) {fu p s : Nat} {σ : St}, SO σ m m' → gi σ 59 = nI s → e - p = d → d < fu → s + d ≤ 3200 → p ≤ e →
    f_X8_take_L3 j (nI e) fu (nI p) σ = some (si (sr σ m (wr (gr σ m) s (seg (gr σ (j + 16)) p d))) 59 (nI (s + d))) := by
  intro d
  induction d with
  | zero =>
    intro fu p s σ hS hg hd hf hs hp
    obtain ⟨fu, rfl⟩ : ∃ f, fu = f + 1 := ⟨fu - 1, by omega⟩
    rw [seg_0, wr_nil, sr_id, Nat.add_zero s, si_id hg]
    unfold f_X8_take_L3; simp (disch := omega) only [↓bnd_s, ↓bnd2_s, ↓bnd3_s, ↓bnd4_s, ↓bnd5_s, ↓bndR_l, ↓bndR_r, ↓bndX_l, ↓bndX_r, ↓bndQ_s, ↓bndQ2_s, bndQ_s, bndQ2_s, bnd_s, bnd2_s, bnd3_s, bnd4_s, bnd5_s, bndR_l, bndR_r, bndX_l, bndX_r, nq_lt, nq_le, nq_inj, nq_add, nq_mul, nq_sub, nq_div, nq_neg1, nq_clamp, nq_ne1, nq_le1, ne1_lt, n1_lt0, n1_lt, n1_ne, nz0, nz1, nz2, nz3, nz4, nz5, nz6, nz8, nz10, nz31, nz32, nz50, nz400, nz800, nz3200, nz20000, nlt_f, nlt_t, nle_f, nle_t, neq_f, neq_t, gi_si_e, gi_si_n, gp_sp_e, gp_sp_n, gr_sr_e, gr_sr_n, gi_sp, gi_sr, gp_si, gp_sr, gr_si, gr_sp, upd_e, upd_n, un_e, un_n, an_sn_e, an_sn_n, an_sm, an_sv, am_sn, am_sm_e, am_sm_n, am_sv, ai_sn, ai_sm, ai_sv_e, ai_sv_n, reduceIte, or_false, false_or, or_true, true_or, or_self, and_true, true_and, and_false, false_and, not_true_eq_false, not_false_eq_true]
  | succ d ih =>
    intro fu p s σ hS hg hd hf hs hp
    obtain ⟨fu, rfl⟩ : ∃ f, fu = f + 1 := ⟨fu - 1, by omega⟩
    have h89 := hS.2.2
    have := ih (fu := fu) (p := p + 1) (s := s + 1) (σ := si (sr σ m (upd (gr σ m) s (gr σ (j + 16) p))) 59 (nI (s + 1))) ⟨hS.1, hS.2.1, h89⟩ (gi_si_e _ _ rfl) (by omega) (by omega) (by omega) (by omega)
    rw [sr_si, si_si, sr_sr, gr_si, gr_si, gr_sr_e _ _ rfl, gr_sr_n _ _ (by omega), wr_cons, ← seg_s, show s + 1 + d = s + (d + 1) by omega] at this
    unfold f_X8_take_L3
    simp (disch := omega) only [↓bnd_s, ↓bnd2_s, ↓bnd3_s, ↓bnd4_s, ↓bnd5_s, ↓bndR_l, ↓bndR_r, ↓bndX_l, ↓bndX_r, ↓bndQ_s, ↓bndQ2_s, bndQ_s, bndQ2_s, bnd_s, bnd2_s, bnd3_s, bnd4_s, bnd5_s, bndR_l, bndR_r, bndX_l, bndX_r, nq_lt, nq_le, nq_inj, nq_add, nq_mul, nq_sub, nq_div, nq_neg1, nq_clamp, nq_ne1, nq_le1, ne1_lt, n1_lt0, n1_lt, n1_ne, nz0, nz1, nz2, nz3, nz4, nz5, nz6, nz8, nz10, nz31, nz32, nz50, nz400, nz800, nz3200, nz20000, nlt_f, nlt_t, nle_f, nle_t, neq_f, neq_t, gi_si_e, gi_si_n, gp_sp_e, gp_sp_n, gr_sr_e, gr_sr_n, gi_sp, gi_sr, gp_si, gp_sr, gr_si, gr_sp, upd_e, upd_n, un_e, un_n, an_sn_e, an_sn_n, an_sm, an_sv, am_sn, am_sm_e, am_sm_n, am_sv, ai_sn, ai_sm, ai_sv_e, ai_sv_n, reduceIte, or_false, false_or, or_true, true_or, or_self, and_true, true_and, and_false, false_and, not_true_eq_false, not_false_eq_true, hS.1, hS.2.1, hS.m, hS.m', hg]
    exact this
theorem take_eq {j : Nat} (hj : 16 ≤ j) {p e m m' : Nat} (he : e ≤ 800) (hp : p ≤ e) {s : Nat} {σ : St} (hS : SO σ m m') (hg : gi σ 59 = nI s) (hs : s + (e - p) ≤ 3200) :
    f_X8_take j (nI p) (nI e) σ = some (si (sr σ m (wr (gr σ m) s (seg (gr σ (j + 16)) p (e - p)))) 59 (nI (s + (e - p)))) := by
  unfold f_X8_take
  rw [take_L hj he _ hS hg rfl (by unfold FU; omega) hs hp]; rfl
theorem lay_L {j s0 fr n M M' S : Nat} {σ0 : St} (hS : SO σ0 M M') (hg : gi σ0 59 = nI S) (hj : 16 ≤ j) (h8 : fr + n ≤ 800) (hs : s0 + n ≤ S) (h32 : S ≤ 3200) : ∀ (d : Nat) {fu i : Nat}, n - i = d → d < fu → i ≤ n →
    f_X8_layBack_L9 j (nI (fr + n)) fu (nI (dif (fun k => gr σ0 (j + 16) (fr + k)) (fun k => gr σ0 M (s0 + k)) i)) (nI (s0 + i)) (nI (fr + i)) (sr σ0 (j + 16) (wr (gr σ0 (j + 16)) fr (seg (gr σ0 M) s0 i))) =
      some (nI (dif (fun k => gr σ0 (j + 16) (fr + k)) (fun k => gr σ0 M (s0 + k)) n), sr σ0 (j + 16) (wr (gr σ0 (j + 16)) fr (seg (gr σ0 M) s0 n))) := by
  intro d
  induction d with
  | zero =>
    intro fu i hd hf hi
    obtain ⟨fu, rfl⟩ : ∃ f, fu = f + 1 := ⟨fu - 1, by omega⟩
    have e : i = n := by omega
    subst e
    unfold f_X8_layBack_L9; simp (disch := omega) only [↓bnd_s, ↓bnd2_s, ↓bnd3_s, ↓bnd4_s, ↓bnd5_s, ↓bndR_l, ↓bndR_r, ↓bndX_l, ↓bndX_r, ↓bndQ_s, ↓bndQ2_s, bndQ_s, bndQ2_s, bnd_s, bnd2_s, bnd3_s, bnd4_s, bnd5_s, bndR_l, bndR_r, bndX_l, bndX_r, nq_lt, nq_le, nq_inj, nq_add, nq_mul, nq_sub, nq_div, nq_neg1, nq_clamp, nq_ne1, nq_le1, ne1_lt, n1_lt0, n1_lt, n1_ne, nz0, nz1, nz2, nz3, nz4, nz5, nz6, nz8, nz10, nz31, nz32, nz50, nz400, nz800, nz3200, nz20000, nlt_f, nlt_t, nle_f, nle_t, neq_f, neq_t, gi_si_e, gi_si_n, gp_sp_e, gp_sp_n, gr_sr_e, gr_sr_n, gi_sp, gi_sr, gp_si, gp_sr, gr_si, gr_sp, upd_e, upd_n, un_e, un_n, an_sn_e, an_sn_n, an_sm, an_sv, am_sn, am_sm_e, am_sm_n, am_sv, ai_sn, ai_sm, ai_sv_e, ai_sv_n, reduceIte, or_false, false_or, or_true, true_or, or_self, and_true, true_and, and_false, false_and, not_true_eq_false, not_false_eq_true]
  | succ d ih =>
    intro fu i hd hf hi
    obtain ⟨fu, rfl⟩ : ∃ f, fu = f + 1 := ⟨fu - 1, by omega⟩
    have h89 := hS.2.2
    have := ih (fu := fu) (i := i + 1) (by omega) (by omega) (by omega)
    rw [dif_s, ← wr_seg_s, show fr + (i + 1) = fr + i + 1 by omega, show s0 + (i + 1) = s0 + i + 1 by omega] at this
    have e0 : wr (gr σ0 (j + 16)) fr (seg (gr σ0 M) s0 i) (fr + i) = gr σ0 (j + 16) (fr + i) := wr_out _ (Or.inr (by rw [seg_len]; omega))
    have eM : ∀ X, gr (sr σ0 (j + 16) X) M = gr σ0 M := fun X => gr_sr_n _ _ (by omega)
    unfold f_X8_layBack_L9
    by_cases e : gr σ0 (j + 16) (fr + i) = gr σ0 M (s0 + i)
    · rw [if_pos e, Nat.add_zero, upd_id (by rw [e0, e])] at this
      simp (disch := omega) only [↓bnd_s, ↓bnd2_s, ↓bnd3_s, ↓bnd4_s, ↓bnd5_s, ↓bndR_l, ↓bndR_r, ↓bndX_l, ↓bndX_r, ↓bndQ_s, ↓bndQ2_s, bndQ_s, bndQ2_s, bnd_s, bnd2_s, bnd3_s, bnd4_s, bnd5_s, bndR_l, bndR_r, bndX_l, bndX_r, nq_lt, nq_le, nq_inj, nq_add, nq_mul, nq_sub, nq_div, nq_neg1, nq_clamp, nq_ne1, nq_le1, ne1_lt, n1_lt0, n1_lt, n1_ne, nz0, nz1, nz2, nz3, nz4, nz5, nz6, nz8, nz10, nz31, nz32, nz50, nz400, nz800, nz3200, nz20000, nlt_f, nlt_t, nle_f, nle_t, neq_f, neq_t, gi_si_e, gi_si_n, gp_sp_e, gp_sp_n, gr_sr_e, gr_sr_n, gi_sp, gi_sr, gp_si, gp_sr, gr_si, gr_sp, upd_e, upd_n, un_e, un_n, an_sn_e, an_sn_n, an_sm, an_sv, am_sn, am_sm_e, am_sm_n, am_sv, ai_sn, ai_sm, ai_sv_e, ai_sv_n, reduceIte, or_false, false_or, or_true, true_or, or_self, and_true, true_and, and_false, false_and, not_true_eq_false, not_false_eq_true, gi_sr, gp_sr, hg, hS.1, hS.m, eM, e0, e]
      exact this
    · rw [if_neg e] at this
      simp (disch := omega) only [↓bnd_s, ↓bnd2_s, ↓bnd3_s, ↓bnd4_s, ↓bnd5_s, ↓bndR_l, ↓bndR_r, ↓bndX_l, ↓bndX_r, ↓bndQ_s, ↓bndQ2_s, bndQ_s, bndQ2_s, bnd_s, bnd2_s, bnd3_s, bnd4_s, bnd5_s, bndR_l, bndR_r, bndX_l, bndX_r, nq_lt, nq_le, nq_inj, nq_add, nq_mul, nq_sub, nq_div, nq_neg1, nq_clamp, nq_ne1, nq_le1, ne1_lt, n1_lt0, n1_lt, n1_ne, nz0, nz1, nz2, nz3, nz4, nz5, nz6, nz8, nz10, nz31, nz32, nz50, nz400, nz800, nz3200, nz20000, nlt_f, nlt_t, nle_f, nle_t, neq_f, neq_t, gi_si_e, gi_si_n, gp_sp_e, gp_sp_n, gr_sr_e, gr_sr_n, gi_sp, gi_sr, gp_si, gp_sr, gr_si, gr_sp, upd_e, upd_n, un_e, un_n, an_sn_e, an_sn_n, an_sm, an_sv, am_sn, am_sm_e, am_sm_n, am_sv, ai_sn, ai_sm, ai_sv_e, ai_sv_n, reduceIte, or_false, false_or, or_true, true_or, or_self, and_true, true_and, and_false, false_and, not_true_eq_false, not_false_eq_true, gi_sr, gp_sr, hg, hS.1, hS.m, eM, e0, e, sr_sr]
      exact this
theorem lay_eq {j s0 fr to M M' S : Nat} {σ0 : St} (hS : SO σ0 M M') (hg : gi σ0 59 = nI S) (hj : 16 ≤ j) (h8 : to ≤ 800) (hft : fr ≤ to) (hs : s0 + (to - fr) ≤ S) (h32 : S ≤ 3200) :
    f_X8_layBack (nI s0) j (nI fr) (nI to) σ0 = some (nI (dif (fun k => gr σ0 (j + 16) (fr + k)) (fun k => gr σ0 M (s0 + k)) (to - fr)), sr σ0 (j + 16) (wr (gr σ0 (j + 16)) fr (seg (gr σ0 M) s0 (to - fr)))) := by
  have := lay_L (fr := fr) (n := to - fr) hS hg hj (by omega) hs h32 _ (fu := FU) (i := 0) rfl (by unfold FU; omega) (by omega)
  rw [seg_0, wr_nil, sr_id, show fr + (to - fr) = to by omega, Nat.add_zero fr, Nat.add_zero s0] at this
  unfold f_X8_layBack
  rw [nz0]
  rw [show dif (fun k => gr σ0 (j + 16) (fr + k)) (fun k => gr σ0 M (s0 + k)) 0 = 0 from rfl] at this
  rw [this]; rfl
/-- a part of the row j is sorted -/
theorem arrPart_eq (hm : an a 0 ≤ 20000) {t : Nat} (ht : t < 4) {σ : St} (hC : CD a σ) {j p e m m' : Nat} (hj : 16 ≤ j) (hpe : p ≤ e) (he : e ≤ 800) (hS : SO σ m m') (hv : ∀ q, p ≤ q → q < e → ∃ i, i < an a 0 ∧ gr σ (j + 16) q = nI i) :
    ∃ σ', f_X10_arrangePart j (nI p) (nI e) (oNo t) σ = some (nI (dif (fun k => gr σ (j + 16) (p + k)) (fun k => wr (gr σ (j + 16)) p (isrt (ky a t) (seg (gr σ (j + 16)) p (e - p))) (p + k)) (e - p)), σ') ∧
      pF j (wr (gr σ (j + 16)) p (isrt (ky a t) (seg (gr σ (j + 16)) p (e - p)))) σ σ' := by
  have h89 := hS.2.2
  have t1 := take_eq (j := j) hj he hpe (s := 0) (σ := si σ 59 (nI 0)) (m := m) (m' := m') ⟨hS.1, hS.2.1, h89⟩ (gi_si_e _ _ rfl) (by omega)
  rw [sr_si, si_si, gr_si, gr_si, Nat.zero_add] at t1
  obtain ⟨X, hX⟩ : ∃ z, z = wr (gr σ m) 0 (seg (gr σ (j + 16)) p (e - p)) := ⟨_, rfl⟩
  rw [← hX] at t1
  have hseg : seg X 0 (e - p) = seg (gr σ (j + 16)) p (e - p) := by
    have := seg_wr (seg (gr σ (j + 16)) p (e - p)) (gr σ m) 0
    rw [seg_len, ← hX] at this
    exact this
  have eX : gr (si (sr σ m X) 59 (nI (e - p))) m = X := by rw [gr_si, gr_sr_e _ _ rfl]
  obtain ⟨σ1, M, M', k1, k2, k3, k4⟩ := arrange_eq hm ht (n := e - p) (m := m) (m' := m') (σ := si (sr σ m X) 59 (nI (e - p))) (by omega) (hC.fr (by simp (disch := omega) only [gi_si_e, gi_si_n, gp_sp_e, gp_sp_n, gr_sr_e, gr_sr_n, gi_sp, gi_sr, gp_si, gp_sr, gr_si, gr_sp, upd_e, upd_n, un_e, un_n, an_sn_e, an_sn_n, an_sm, an_sv, am_sn, am_sm_e, am_sm_n, am_sv, ai_sn, ai_sm, ai_sv_e, ai_sv_n, reduceIte, or_false, false_or, or_true, true_or, or_self, and_true, true_and, and_false, false_and, not_true_eq_false, not_false_eq_true]) (by simp (disch := omega) only [gi_si_e, gi_si_n, gp_sp_e, gp_sp_n, gr_sr_e, gr_sr_n, gi_sp, gi_sr, gp_si, gp_sr, gr_si, gr_sp, upd_e, upd_n, un_e, un_n, an_sn_e, an_sn_n, an_sm, an_sv, am_sn, am_sm_e, am_sm_n, am_sv, ai_sn, ai_sm, ai_sv_e, ai_sv_n, reduceIte, or_false, false_or, or_true, true_or, or_self, and_true, true_and, and_false, false_and, not_true_eq_false, not_false_eq_true]) (by simp (disch := omega) only [gi_si_e, gi_si_n, gp_sp_e, gp_sp_n, gr_sr_e, gr_sr_n, gi_sp, gi_sr, gp_si, gp_sr, gr_si, gr_sp, upd_e, upd_n, un_e, un_n, an_sn_e, an_sn_n, an_sm, an_sv, am_sn, am_sm_e, am_sm_n, am_sv, ai_sn, ai_sm, ai_sv_e, ai_sv_n, reduceIte, or_false, false_or, or_true, true_or, or_self, and_true, true_and, and_false, false_and, not_true_eq_false, not_false_eq_true])) ⟨hS.1, hS.2.1, h89⟩ (gi_si_e _ _ rfl) (fun q hq => by
    rw [eX]
    obtain ⟨i, hi, ei⟩ := hv (p + q) (by omega) (by omega)
    refine ⟨i, hi, ?_⟩
    rw [← ei, hX]
    have := wr_at (gr σ m) (gr σ (j + 16)) 0 p (e - p) q hq
    rw [Nat.zero_add] at this
    exact this)
  rw [eX, hseg] at k1 k4
  have eR : gr σ1 (j + 16) = gr σ (j + 16) := by
    rw [k2.2.2 (j + 16) (by omega) (by omega), gr_si, gr_sr_n _ _ (by omega)]
  have hM := k3.2.2
  have l1 := lay_eq (s0 := 0) (fr := p) (to := e) (S := e - p) k3 ((k2.1 59).trans (gi_si_e _ _ rfl)) hj he hpe (by omega) (by omega)
  rw [eR, k4] at l1
  have hT : ∀ k, k < e - p → gr σ1 M (0 + k) = wr (gr σ (j + 16)) p (isrt (ky a t) (seg (gr σ (j + 16)) p (e - p))) (p + k) := fun k hk => by
    rw [← k4]; exact (wr_at _ _ _ _ _ _ hk).symm
  rw [dif_congr (fun _ _ => rfl) hT] at l1
  refine ⟨sr σ1 (j + 16) (wr (gr σ (j + 16)) p (isrt (ky a t) (seg (gr σ (j + 16)) p (e - p)))), ?_, ?_⟩
  · unfold f_X10_arrangePart f_X8_clear
    rw [nz0, bnd_s, t1, bnd_s, k1, bnd2_s, l1]; rfl
  · refine ⟨fun k hk => ?_, fun k h1 h2 => ?_, ⟨M, M', k3⟩, by rw [gr_sr_e _ _ rfl], fun i h1 h2 h3 => ?_⟩
    · rw [gi_sr, k2.1, gi_si_n _ _ hk]; rfl
    · rw [gp_sr, k2.2.1 k h1 h2]; rfl
    · rw [gr_sr_n _ _ h3, k2.2.2 i h1 h2, gr_si, gr_sr_n _ _ (by omega)]
end TB
