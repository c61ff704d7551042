/-! the sorting calls -/
section SC
variable {a : AS} {σ τ : St}
theorem REL.SO (h : REL a σ τ) : ∃ m m', SO σ m m' := by
  rcases h.so with ⟨h1, h2⟩ | ⟨h1, h2⟩
  · exact ⟨8, 9, h1, h2, Or.inl ⟨rfl, rfl⟩⟩
  · exact ⟨9, 8, h1, h2, Or.inr ⟨rfl, rfl⟩⟩
theorem SO.or {m m' : Nat} (h : SO σ m m') : (gp σ 57 = 8 ∧ gp σ 58 = 9) ∨ (gp σ 57 = 9 ∧ gp σ 58 = 8) := by
  obtain ⟨h1, h2, h3⟩ := h
  rw [h1, h2]; exact h3
theorem isrt_mem {key : Int32 → Int} {l : List Int32} {x : Int32} (h : x ∈ isrt key l) : x ∈ l := (isrt_srt key _ l rfl).2.2.mem_iff.mp h
theorem isrt_len (key : Int32 → Int) (l : List Int32) : (isrt key l).length = l.length := (isrt_srt key _ l rfl).len
theorem wr_cases (g : Nat → Int32) (p : Nat) (l : List Int32) (q : Nat) : (wr g p l q ∈ l) ∨ (wr g p l q = g q) := by
  by_cases h : q < p ∨ p + l.length ≤ q
  · exact Or.inr (wr_out _ h)
  · have h2 : l[q - p]? = some (l[q - p]'(by omega)) := List.getElem?_eq_getElem (by omega)
    rw [wr_in _ (by omega) h2]
    exact Or.inl (List.getElem_mem _)
theorem part_rel (h : REL a σ τ) {t r p e : Nat} (ht : t < 4) (hr : r < 4) (hpe : p ≤ e) (he : e ≤ an a (10 + r)) :
    ∃ c σ' τ' a', f_X10_arrangePart (16 + r) (nI p) (nI e) (oNo t) σ = some (nI c, σ') ∧ f_X11_sortsPart (nI r) (nI p) (nI e) (nI t) τ = some (nI c, τ') ∧ REL a' σ' τ' := by
  have hn := h.n hr
  have hm := h.m
  obtain ⟨m, m', hS⟩ := h.SO
  obtain ⟨σ', k1, k2⟩ := arrPart_eq hm ht h.cd (j := 16 + r) (by omega) hpe (show e ≤ 800 by omega) hS (fun q h1 h2 => ⟨_, h.lt hr (by omega), h.cmk hr (by omega)⟩)
  obtain ⟨τ', l1, l2⟩ := sortsPart_eq hm ht hr hpe (show e ≤ 800 by omega) h.md (fun k hk => ⟨_, h.lt hr (show p + k < an a (10 + r) by omega), h.mmk2 hr (by omega) (by omega)⟩)
  have hsg : seg (gr τ 4) (800 * r + p) (e - p) = seg (gr σ (16 + r + 16)) p (e - p) := seg_congr fun k hk => by
    rw [h.cmk hr (show p + k < an a (10 + r) by omega), h.mmk2 hr (show p + k < an a (10 + r) by omega) (by omega)]
  rw [hsg] at l1 l2
  obtain ⟨S, hSe⟩ : ∃ z, z = isrt (ky a t) (seg (gr σ (16 + r + 16)) p (e - p)) := ⟨_, rfl⟩
  rw [← hSe] at k1 k2 l1 l2
  have hSl : S.length = e - p := by rw [hSe, isrt_len, seg_len]
  have hN : ∀ k, k < an a (10 + r) → ∃ i, i < an a 0 ∧ wr (gr σ (16 + r + 16)) p S k = nI i := fun k hk => by
    rcases wr_cases (gr σ (16 + r + 16)) p S k with h1 | h1
    · rw [hSe] at h1
      obtain ⟨q, hq, eq⟩ := seg_mem (isrt_mem h1)
      rw [← hSe] at eq
      rw [eq]
      exact ⟨_, h.lt hr (by omega), h.cmk hr (by omega)⟩
    · rw [h1]; exact ⟨_, h.lt hr hk, h.cmk hr hk⟩
  have hcl : ∀ k, k < an a (10 + r) → (wr (gr σ (16 + r + 16)) p S k).toNatClampNeg < an a 0 ∧ wr (gr σ (16 + r + 16)) p S k = nI (wr (gr σ (16 + r + 16)) p S k).toNatClampNeg := fun k hk => by
    obtain ⟨i, hi, ei⟩ := hN k hk
    rw [ei, nq_clamp (by omega)]; exact ⟨hi, rfl⟩
  have hG : ∀ k, k < an a (10 + r) → wr (gr τ 4) (800 * r + p) S (800 * r + k) = wr (gr σ (16 + r + 16)) p S k := fun k hk => by
    by_cases e1 : k < p ∨ p + S.length ≤ k
    · rw [wr_out _ (by omega), wr_out _ e1, h.mmk hr hk, h.cmk hr hk]
    · have h2 : S[k - p]? = some (S[k - p]'(by omega)) := List.getElem?_eq_getElem (by omega)
      rw [wr_in _ (by omega) h2, wr_in (p := 800 * r + p) _ (by omega) (by rw [show 800 * r + k - (800 * r + p) = k - p by omega]; exact h2)]
  have hR := h.row (r := r) (v := an a (10 + r)) hr hn (f := fun k => (wr (gr σ (16 + r + 16)) p S k).toNatClampNeg) (F := wr (gr σ (16 + r + 16)) p S) (G := wr (gr τ 4) (800 * r + p) S)
    (fun k hk => (hcl k hk).1) (fun k hk => (hcl k hk).2) (fun k hk => by rw [hG k hk]; exact (hcl k hk).2)
    (fun r' k h1 h2 h3 => wr_out _ (by omega))
  refine ⟨_, σ', τ', _, k1, ?_, hR.ir ?_ ?_⟩
  · rw [l1, dif_comm]
    congr 2
    rw [dif_congr (f' := fun k => gr σ (16 + r + 16) (p + k)) (g' := fun k => wr (gr σ (16 + r + 16)) p S (p + k))]
    · intro k hk
      rw [h.mmk2 hr (show p + k < an a (10 + r) by omega) (by omega)]; exact (h.cmk hr (by omega)).symm
    · intro k hk
      rw [show 800 * r + p + k = 800 * r + (p + k) by omega]; exact hG _ (by omega)
  · obtain ⟨b1, b2, ⟨M, M', b3⟩, b4, b5⟩ := k2
    refine ⟨?_, ?_, ?_, fun t ht => ?_, ?_, ?_, ?_, ?_, fun t ht => ?_, b3.or⟩
    · rw [b1 _ (by decide)]; simp (disch := omega) only [gi_si_e, gi_si_n, gp_sp_e, gp_sp_n, gr_sr_e, gr_sr_n, gi_sp, gi_sr, gp_si, gp_sr, gr_si, gr_sp, upd_e, upd_n, un_e, un_n, an_sn_e, an_sn_n, an_sm, an_sv, am_sn, am_sm_e, am_sm_n, am_sv, ai_sn, ai_sm, ai_sv_e, ai_sv_n, reduceIte, or_false, false_or, or_true, true_or, or_self, and_true, true_and, and_false, false_and, not_true_eq_false, not_false_eq_true]
    · rw [b1 _ (by decide)]; simp (disch := omega) only [gi_si_e, gi_si_n, gp_sp_e, gp_sp_n, gr_sr_e, gr_sr_n, gi_sp, gi_sr, gp_si, gp_sr, gr_si, gr_sp, upd_e, upd_n, un_e, un_n, an_sn_e, an_sn_n, an_sm, an_sv, am_sn, am_sm_e, am_sm_n, am_sv, ai_sn, ai_sm, ai_sv_e, ai_sv_n, reduceIte, or_false, false_or, or_true, true_or, or_self, and_true, true_and, and_false, false_and, not_true_eq_false, not_false_eq_true]
    · rw [b1 _ (by decide)]; simp (disch := omega) only [gi_si_e, gi_si_n, gp_sp_e, gp_sp_n, gr_sr_e, gr_sr_n, gi_sp, gi_sr, gp_si, gp_sr, gr_si, gr_sp, upd_e, upd_n, un_e, un_n, an_sn_e, an_sn_n, an_sm, an_sv, am_sn, am_sm_e, am_sm_n, am_sv, ai_sn, ai_sm, ai_sv_e, ai_sv_n, reduceIte, or_false, false_or, or_true, true_or, or_self, and_true, true_and, and_false, false_and, not_true_eq_false, not_false_eq_true]
    · rw [b1 _ (by omega)]
      by_cases e1 : t = r
      · rw [e1, gi_si_e _ _ rfl, h.cn hr]
      · rw [gi_si_n _ _ (by omega)]; rfl
    · rw [b5 _ (by omega) (by omega) (by omega)]; simp (disch := omega) only [gi_si_e, gi_si_n, gp_sp_e, gp_sp_n, gr_sr_e, gr_sr_n, gi_sp, gi_sr, gp_si, gp_sr, gr_si, gr_sp, upd_e, upd_n, un_e, un_n, an_sn_e, an_sn_n, an_sm, an_sv, am_sn, am_sm_e, am_sm_n, am_sv, ai_sn, ai_sm, ai_sv_e, ai_sv_n, reduceIte, or_false, false_or, or_true, true_or, or_self, and_true, true_and, and_false, false_and, not_true_eq_false, not_false_eq_true]
    · rw [b5 _ (by omega) (by omega) (by omega)]; simp (disch := omega) only [gi_si_e, gi_si_n, gp_sp_e, gp_sp_n, gr_sr_e, gr_sr_n, gi_sp, gi_sr, gp_si, gp_sr, gr_si, gr_sp, upd_e, upd_n, un_e, un_n, an_sn_e, an_sn_n, an_sm, an_sv, am_sn, am_sm_e, am_sm_n, am_sv, ai_sn, ai_sm, ai_sv_e, ai_sv_n, reduceIte, or_false, false_or, or_true, true_or, or_self, and_true, true_and, and_false, false_and, not_true_eq_false, not_false_eq_true]
    · rw [b5 _ (by omega) (by omega) (by omega)]; simp (disch := omega) only [gi_si_e, gi_si_n, gp_sp_e, gp_sp_n, gr_sr_e, gr_sr_n, gi_sp, gi_sr, gp_si, gp_sr, gr_si, gr_sp, upd_e, upd_n, un_e, un_n, an_sn_e, an_sn_n, an_sm, an_sv, am_sn, am_sm_e, am_sm_n, am_sv, ai_sn, ai_sm, ai_sv_e, ai_sv_n, reduceIte, or_false, false_or, or_true, true_or, or_self, and_true, true_and, and_false, false_and, not_true_eq_false, not_false_eq_true]
    · rw [b5 _ (by omega) (by omega) (by omega)]; simp (disch := omega) only [gi_si_e, gi_si_n, gp_sp_e, gp_sp_n, gr_sr_e, gr_sr_n, gi_sp, gi_sr, gp_si, gp_sr, gr_si, gr_sp, upd_e, upd_n, un_e, un_n, an_sn_e, an_sn_n, an_sm, an_sv, am_sn, am_sm_e, am_sm_n, am_sv, ai_sn, ai_sm, ai_sv_e, ai_sv_n, reduceIte, or_false, false_or, or_true, true_or, or_self, and_true, true_and, and_false, false_and, not_true_eq_false, not_false_eq_true]
    · by_cases e1 : t = r
      · rw [e1, show 32 + r = 16 + r + 16 by omega, b4, gr_si, gr_sr_e _ _ rfl]
      · rw [b5 _ (by omega) (by omega) (by omega), gr_si, gr_sr_n _ _ (by omega)]
  · obtain ⟨b1, b2, b3⟩ := l2
    refine ⟨b1 2, b1 8, b1 9, ?_, ?_, ?_, ?_, ?_, ?_, ?_⟩
    · rw [b3 _ (by decide) (by decide) (by decide)]; simp (disch := omega) only [gi_si_e, gi_si_n, gp_sp_e, gp_sp_n, gr_sr_e, gr_sr_n, gi_sp, gi_sr, gp_si, gp_sr, gr_si, gr_sp, upd_e, upd_n, un_e, un_n, an_sn_e, an_sn_n, an_sm, an_sv, am_sn, am_sm_e, am_sm_n, am_sv, ai_sn, ai_sm, ai_sv_e, ai_sv_n, reduceIte, or_false, false_or, or_true, true_or, or_self, and_true, true_and, and_false, false_and, not_true_eq_false, not_false_eq_true]
    · rw [b3 _ (by decide) (by decide) (by decide)]; simp (disch := omega) only [gi_si_e, gi_si_n, gp_sp_e, gp_sp_n, gr_sr_e, gr_sr_n, gi_sp, gi_sr, gp_si, gp_sr, gr_si, gr_sp, upd_e, upd_n, un_e, un_n, an_sn_e, an_sn_n, an_sm, an_sv, am_sn, am_sm_e, am_sm_n, am_sv, ai_sn, ai_sm, ai_sv_e, ai_sv_n, reduceIte, or_false, false_or, or_true, true_or, or_self, and_true, true_and, and_false, false_and, not_true_eq_false, not_false_eq_true]
    · rw [b2]; simp (disch := omega) only [gi_si_e, gi_si_n, gp_sp_e, gp_sp_n, gr_sr_e, gr_sr_n, gi_sp, gi_sr, gp_si, gp_sr, gr_si, gr_sp, upd_e, upd_n, un_e, un_n, an_sn_e, an_sn_n, an_sm, an_sv, am_sn, am_sm_e, am_sm_n, am_sv, ai_sn, ai_sm, ai_sv_e, ai_sv_n, reduceIte, or_false, false_or, or_true, true_or, or_self, and_true, true_and, and_false, false_and, not_true_eq_false, not_false_eq_true]
    · rw [b3 _ (by decide) (by decide) (by decide)]; simp (disch := omega) only [gi_si_e, gi_si_n, gp_sp_e, gp_sp_n, gr_sr_e, gr_sr_n, gi_sp, gi_sr, gp_si, gp_sr, gr_si, gr_sp, upd_e, upd_n, un_e, un_n, an_sn_e, an_sn_n, an_sm, an_sv, am_sn, am_sm_e, am_sm_n, am_sv, ai_sn, ai_sm, ai_sv_e, ai_sv_n, reduceIte, or_false, false_or, or_true, true_or, or_self, and_true, true_and, and_false, false_and, not_true_eq_false, not_false_eq_true]
    · rw [b3 _ (by decide) (by decide) (by decide), gr_sr_e _ _ rfl, upd_id (h.mn hr)]
    · rw [b3 _ (by decide) (by decide) (by decide)]; simp (disch := omega) only [gi_si_e, gi_si_n, gp_sp_e, gp_sp_n, gr_sr_e, gr_sr_n, gi_sp, gi_sr, gp_si, gp_sr, gr_si, gr_sp, upd_e, upd_n, un_e, un_n, an_sn_e, an_sn_n, an_sm, an_sv, am_sn, am_sm_e, am_sm_n, am_sv, ai_sn, ai_sm, ai_sv_e, ai_sv_n, reduceIte, or_false, false_or, or_true, true_or, or_self, and_true, true_and, and_false, false_and, not_true_eq_false, not_false_eq_true]
    · rw [b3 _ (by decide) (by decide) (by decide)]; simp (disch := omega) only [gi_si_e, gi_si_n, gp_sp_e, gp_sp_n, gr_sr_e, gr_sr_n, gi_sp, gi_sr, gp_si, gp_sr, gr_si, gr_sp, upd_e, upd_n, un_e, un_n, an_sn_e, an_sn_n, an_sm, an_sv, am_sn, am_sm_e, am_sm_n, am_sv, ai_sn, ai_sm, ai_sv_e, ai_sv_n, reduceIte, or_false, false_or, or_true, true_or, or_self, and_true, true_and, and_false, false_and, not_true_eq_false, not_false_eq_true]
theorem row_rel (h : REL a σ τ) {t r : Nat} (ht : t < 4) (hr : r < 4) :
    ∃ c σ' τ' a', f_X10_arrangeRow (16 + r) (oNo t) σ = some (nI c, σ') ∧ f_X11_sortsPart (nI r) (nI 0) (gr τ 6 r) (nI t) τ = some (nI c, τ') ∧ REL a' σ' τ' := by
  obtain ⟨c, σ', τ', a', k1, k2, k3⟩ := part_rel h ht hr (p := 0) (e := an a (10 + r)) (by omega) (by omega)
  refine ⟨c, σ', τ', a', ?_, ?_, k3⟩
  · unfold f_X10_arrangeRow
    rw [h.cn hr, nz0, k1]; rfl
  · rw [h.mn hr]; exact k2
theorem P_sort (h : REL a σ τ) (x : Int32) : AG [zI] (f_X10_sort x σ) (f_X11_sort x τ) := by
  rcases row_cases x with ⟨r, hr, rfl⟩ | ⟨hb, hb2, -⟩
  · obtain ⟨c, σ', τ', a', k1, k2, k3⟩ := row_rel h (t := 0) (by omega) hr
    refine AG.ok (nI c) ?_ ?_ k3
    · unfold f_X10_sort; rw [rowAt_ok hr, bndX_r, show (0 : Nat) = oNo 0 from rfl, k1]; rfl
    · unfold f_X11_sort; rw [isRow_ok hr, bnd_s]; simp (disch := omega) only [↓bnd_s, ↓bnd2_s, ↓bnd3_s, ↓bnd4_s, ↓bnd5_s, ↓bndR_l, ↓bndR_r, ↓bndX_l, ↓bndX_r, bnd_s, bnd2_s, bnd3_s, bnd4_s, bnd5_s, bndR_l, bndR_r, bndX_l, bndX_r, nq_lt, nq_le, nq_inj, nq_add, nq_mul, nq_sub, nq_div, nq_neg1, nq_clamp, nq_ne1, nq_le1, ne1_lt, n1_lt0, n1_lt, n1_ne, nz0, nz1, nz2, nz3, nz4, nz5, nz6, nz8, nz10, nz31, nz32, nz50, nz400, nz800, nz3200, nz20000, nlt_f, nlt_t, nle_f, nle_t, neq_f, neq_t, gi_si_e, gi_si_n, gp_sp_e, gp_sp_n, gr_sr_e, gr_sr_n, gi_sp, gi_sr, gp_si, gp_sr, gr_si, gr_sp, upd_e, upd_n, un_e, un_n, an_sn_e, an_sn_n, an_sm, an_sv, am_sn, am_sm_e, am_sm_n, am_sv, ai_sn, ai_sm, ai_sv_e, ai_sv_n, reduceIte, or_false, false_or, or_true, true_or, or_self, and_true, true_and, and_false, false_and, not_true_eq_false, not_false_eq_true, k2, told_eq]
  · refine AG.no (v := 0) 0 rfl ?_ ?_ h
    · unfold f_X10_sort; rw [hb]; rfl
    · unfold f_X11_sort; rw [hb2]; simp (disch := omega) only [↓bnd_s, ↓bnd2_s, ↓bnd3_s, ↓bnd4_s, ↓bnd5_s, ↓bndR_l, ↓bndR_r, ↓bndX_l, ↓bndX_r, bnd_s, bnd2_s, bnd3_s, bnd4_s, bnd5_s, bndR_l, bndR_r, bndX_l, bndX_r, nq_lt, nq_le, nq_inj, nq_add, nq_mul, nq_sub, nq_div, nq_neg1, nq_clamp, nq_ne1, nq_le1, ne1_lt, n1_lt0, n1_lt, n1_ne, nz0, nz1, nz2, nz3, nz4, nz5, nz6, nz8, nz10, nz31, nz32, nz50, nz400, nz800, nz3200, nz20000, nlt_f, nlt_t, nle_f, nle_t, neq_f, neq_t, gi_si_e, gi_si_n, gp_sp_e, gp_sp_n, gr_sr_e, gr_sr_n, gi_sp, gi_sr, gp_si, gp_sr, gr_si, gr_sp, upd_e, upd_n, un_e, un_n, an_sn_e, an_sn_n, an_sm, an_sv, am_sn, am_sm_e, am_sm_n, am_sv, ai_sn, ai_sm, ai_sv_e, ai_sv_n, reduceIte, or_false, false_or, or_true, true_or, or_self, and_true, true_and, and_false, false_and, not_true_eq_false, not_false_eq_true, refuse_eq]
theorem P_sortBySecond (h : REL a σ τ) (x : Int32) : AG [zI] (f_X10_sortBySecond x σ) (f_X11_sortBySecond x τ) := by
  rcases row_cases x with ⟨r, hr, rfl⟩ | ⟨hb, hb2, -⟩
  · obtain ⟨c, σ', τ', a', k1, k2, k3⟩ := row_rel h (t := 2) (by omega) hr
    refine AG.ok (nI c) ?_ ?_ k3
    · unfold f_X10_sortBySecond; rw [rowAt_ok hr, bndX_r, show (1 : Nat) = oNo 2 from rfl, k1]; rfl
    · unfold f_X11_sortBySecond; rw [isRow_ok hr, bnd_s]; simp (disch := omega) only [↓bnd_s, ↓bnd2_s, ↓bnd3_s, ↓bnd4_s, ↓bnd5_s, ↓bndR_l, ↓bndR_r, ↓bndX_l, ↓bndX_r, bnd_s, bnd2_s, bnd3_s, bnd4_s, bnd5_s, bndR_l, bndR_r, bndX_l, bndX_r, nq_lt, nq_le, nq_inj, nq_add, nq_mul, nq_sub, nq_div, nq_neg1, nq_clamp, nq_ne1, nq_le1, ne1_lt, n1_lt0, n1_lt, n1_ne, nz0, nz1, nz2, nz3, nz4, nz5, nz6, nz8, nz10, nz31, nz32, nz50, nz400, nz800, nz3200, nz20000, nlt_f, nlt_t, nle_f, nle_t, neq_f, neq_t, gi_si_e, gi_si_n, gp_sp_e, gp_sp_n, gr_sr_e, gr_sr_n, gi_sp, gi_sr, gp_si, gp_sr, gr_si, gr_sp, upd_e, upd_n, un_e, un_n, an_sn_e, an_sn_n, an_sm, an_sv, am_sn, am_sm_e, am_sm_n, am_sv, ai_sn, ai_sm, ai_sv_e, ai_sv_n, reduceIte, or_false, false_or, or_true, true_or, or_self, and_true, true_and, and_false, false_and, not_true_eq_false, not_false_eq_true, k2, told_eq]
  · refine AG.no (v := 0) 0 rfl ?_ ?_ h
    · unfold f_X10_sortBySecond; rw [hb]; rfl
    · unfold f_X11_sortBySecond; rw [hb2]; simp (disch := omega) only [↓bnd_s, ↓bnd2_s, ↓bnd3_s, ↓bnd4_s, ↓bnd5_s, ↓bndR_l, ↓bndR_r, ↓bndX_l, ↓bndX_r, bnd_s, bnd2_s, bnd3_s, bnd4_s, bnd5_s, bndR_l, bndR_r, bndX_l, bndX_r, nq_lt, nq_le, nq_inj, nq_add, nq_mul, nq_sub, nq_div, nq_neg1, nq_clamp, nq_ne1, nq_le1, ne1_lt, n1_lt0, n1_lt, n1_ne, nz0, nz1, nz2, nz3, nz4, nz5, nz6, nz8, nz10, nz31, nz32, nz50, nz400, nz800, nz3200, nz20000, nlt_f, nlt_t, nle_f, nle_t, neq_f, neq_t, gi_si_e, gi_si_n, gp_sp_e, gp_sp_n, gr_sr_e, gr_sr_n, gi_sp, gi_sr, gp_si, gp_sr, gr_si, gr_sp, upd_e, upd_n, un_e, un_n, an_sn_e, an_sn_n, an_sm, an_sv, am_sn, am_sm_e, am_sm_n, am_sv, ai_sn, ai_sm, ai_sv_e, ai_sv_n, reduceIte, or_false, false_or, or_true, true_or, or_self, and_true, true_and, and_false, false_and, not_true_eq_false, not_false_eq_true, refuse_eq]
theorem P_sortByBoth (h : REL a σ τ) (x : Int32) : AG [zI] (f_X10_sortByBoth x σ) (f_X11_sortByBoth x τ) := by
  rcases row_cases x with ⟨r, hr, rfl⟩ | ⟨hb, hb2, -⟩
  · obtain ⟨c, σ', τ', a', k1, k2, k3⟩ := row_rel h (t := 3) (by omega) hr
    refine AG.ok (nI c) ?_ ?_ k3
    · unfold f_X10_sortByBoth; rw [rowAt_ok hr, bndX_r, show (2 : Nat) = oNo 3 from rfl, k1]; rfl
    · unfold f_X11_sortByBoth; rw [isRow_ok hr, bnd_s]; simp (disch := omega) only [↓bnd_s, ↓bnd2_s, ↓bnd3_s, ↓bnd4_s, ↓bnd5_s, ↓bndR_l, ↓bndR_r, ↓bndX_l, ↓bndX_r, bnd_s, bnd2_s, bnd3_s, bnd4_s, bnd5_s, bndR_l, bndR_r, bndX_l, bndX_r, nq_lt, nq_le, nq_inj, nq_add, nq_mul, nq_sub, nq_div, nq_neg1, nq_clamp, nq_ne1, nq_le1, ne1_lt, n1_lt0, n1_lt, n1_ne, nz0, nz1, nz2, nz3, nz4, nz5, nz6, nz8, nz10, nz31, nz32, nz50, nz400, nz800, nz3200, nz20000, nlt_f, nlt_t, nle_f, nle_t, neq_f, neq_t, gi_si_e, gi_si_n, gp_sp_e, gp_sp_n, gr_sr_e, gr_sr_n, gi_sp, gi_sr, gp_si, gp_sr, gr_si, gr_sp, upd_e, upd_n, un_e, un_n, an_sn_e, an_sn_n, an_sm, an_sv, am_sn, am_sm_e, am_sm_n, am_sv, ai_sn, ai_sm, ai_sv_e, ai_sv_n, reduceIte, or_false, false_or, or_true, true_or, or_self, and_true, true_and, and_false, false_and, not_true_eq_false, not_false_eq_true, k2, told_eq]
  · refine AG.no (v := 0) 0 rfl ?_ ?_ h
    · unfold f_X10_sortByBoth; rw [hb]; rfl
    · unfold f_X11_sortByBoth; rw [hb2]; simp (disch := omega) only [↓bnd_s, ↓bnd2_s, ↓bnd3_s, ↓bnd4_s, ↓bnd5_s, ↓bndR_l, ↓bndR_r, ↓bndX_l, ↓bndX_r, bnd_s, bnd2_s, bnd3_s, bnd4_s, bnd5_s, bndR_l, bndR_r, bndX_l, bndX_r, nq_lt, nq_le, nq_inj, nq_add, nq_mul, nq_sub, nq_div, nq_neg1, nq_clamp, nq_ne1, nq_le1, ne1_lt, n1_lt0, n1_lt, n1_ne, nz0, nz1, nz2, nz3, nz4, nz5, nz6, nz8, nz10, nz31, nz32, nz50, nz400, nz800, nz3200, nz20000, nlt_f, nlt_t, nle_f, nle_t, neq_f, neq_t, gi_si_e, gi_si_n, gp_sp_e, gp_sp_n, gr_sr_e, gr_sr_n, gi_sp, gi_sr, gp_si, gp_sr, gr_si, gr_sp, upd_e, upd_n, un_e, un_n, an_sn_e, an_sn_n, an_sm, an_sv, am_sn, am_sm_e, am_sm_n, am_sv, ai_sn, ai_sm, ai_sv_e, ai_sv_n, reduceIte, or_false, false_or, or_true, true_or, or_self, and_true, true_and, and_false, false_and, not_true_eq_false, not_false_eq_true, refuse_eq]
/-- a part of a row: both programs see alike whether it is there -/
theorem isPart_eq (h : REL a σ τ) {r : Nat} (hr : r < 4) (x y : Int32) : (f_X10_needPart (16 + r) x y σ = some (.inl zI) ∧ f_X11_isPart (nI r) x y τ = some (nI 0)) ∨
    (f_X10_needPart (16 + r) x y σ = some (.inl zA) ∧ f_X11_isPart (nI r) x y τ = some (nI 1) ∧ y < x) ∨
    (∃ p e, x = nI p ∧ y = nI e ∧ p ≤ e ∧ e ≤ an a (10 + r) ∧ f_X10_needPart (16 + r) x y σ = some (.inr ()) ∧ f_X11_isPart (nI r) x y τ = some (nI 1)) := by
  have hn := h.n hr
  by_cases h0 : x < nI 0
  · refine Or.inl ⟨?_, ?_⟩
    · unfold f_X10_needPart; rw [nz0, if_pos h0]; rfl
    · unfold f_X11_isPart; rw [isRow_ok hr]; simp (disch := omega) only [↓bnd_s, ↓bnd2_s, ↓bnd3_s, ↓bnd4_s, ↓bnd5_s, ↓bndR_l, ↓bndR_r, ↓bndX_l, ↓bndX_r, bnd_s, bnd2_s, bnd3_s, bnd4_s, bnd5_s, bndR_l, bndR_r, bndX_l, bndX_r, nq_lt, nq_le, nq_inj, nq_add, nq_mul, nq_sub, nq_div, nq_neg1, nq_clamp, nq_ne1, nq_le1, ne1_lt, n1_lt0, n1_lt, n1_ne, nz0, nz1, nz2, nz3, nz4, nz5, nz6, nz8, nz10, nz31, nz32, nz50, nz400, nz800, nz3200, nz20000, nlt_f, nlt_t, nle_f, nle_t, neq_f, neq_t, gi_si_e, gi_si_n, gp_sp_e, gp_sp_n, gr_sr_e, gr_sr_n, gi_sp, gi_sr, gp_si, gp_sr, gr_si, gr_sp, upd_e, upd_n, un_e, un_n, an_sn_e, an_sn_n, an_sm, an_sv, am_sn, am_sm_e, am_sm_n, am_sv, ai_sn, ai_sm, ai_sv_e, ai_sv_n, reduceIte, or_false, false_or, or_true, true_or, or_self, and_true, true_and, and_false, false_and, not_true_eq_false, not_false_eq_true, h0]
  · by_cases h1 : y ≤ nI (an a (10 + r))
    · by_cases h2 : x ≤ y
      · have h3 : ¬ y < nI 0 := fun q => h0 (Int32.lt_of_le_of_lt h2 q)
        obtain ⟨p, hp, rfl⟩ := nq_of h0
        obtain ⟨e, he, rfl⟩ := nq_of h3
        rw [nq_le (by omega) (by omega)] at h1 h2
        refine Or.inr (Or.inr ⟨p, e, rfl, rfl, h2, h1, ?_, ?_⟩)
        · unfold f_X10_needPart; simp (disch := omega) only [↓bnd_s, ↓bnd2_s, ↓bnd3_s, ↓bnd4_s, ↓bnd5_s, ↓bndR_l, ↓bndR_r, ↓bndX_l, ↓bndX_r, bnd_s, bnd2_s, bnd3_s, bnd4_s, bnd5_s, bndR_l, bndR_r, bndX_l, bndX_r, nq_lt, nq_le, nq_inj, nq_add, nq_mul, nq_sub, nq_div, nq_neg1, nq_clamp, nq_ne1, nq_le1, ne1_lt, n1_lt0, n1_lt, n1_ne, nz0, nz1, nz2, nz3, nz4, nz5, nz6, nz8, nz10, nz31, nz32, nz50, nz400, nz800, nz3200, nz20000, nlt_f, nlt_t, nle_f, nle_t, neq_f, neq_t, gi_si_e, gi_si_n, gp_sp_e, gp_sp_n, gr_sr_e, gr_sr_n, gi_sp, gi_sr, gp_si, gp_sr, gr_si, gr_sp, upd_e, upd_n, un_e, un_n, an_sn_e, an_sn_n, an_sm, an_sv, am_sn, am_sm_e, am_sm_n, am_sv, ai_sn, ai_sm, ai_sv_e, ai_sv_n, reduceIte, or_false, false_or, or_true, true_or, or_self, and_true, true_and, and_false, false_and, not_true_eq_false, not_false_eq_true, h.cn hr]
        · unfold f_X11_isPart; rw [isRow_ok hr]; simp (disch := omega) only [↓bnd_s, ↓bnd2_s, ↓bnd3_s, ↓bnd4_s, ↓bnd5_s, ↓bndR_l, ↓bndR_r, ↓bndX_l, ↓bndX_r, bnd_s, bnd2_s, bnd3_s, bnd4_s, bnd5_s, bndR_l, bndR_r, bndX_l, bndX_r, nq_lt, nq_le, nq_inj, nq_add, nq_mul, nq_sub, nq_div, nq_neg1, nq_clamp, nq_ne1, nq_le1, ne1_lt, n1_lt0, n1_lt, n1_ne, nz0, nz1, nz2, nz3, nz4, nz5, nz6, nz8, nz10, nz31, nz32, nz50, nz400, nz800, nz3200, nz20000, nlt_f, nlt_t, nle_f, nle_t, neq_f, neq_t, gi_si_e, gi_si_n, gp_sp_e, gp_sp_n, gr_sr_e, gr_sr_n, gi_sp, gi_sr, gp_si, gp_sr, gr_si, gr_sp, upd_e, upd_n, un_e, un_n, an_sn_e, an_sn_n, an_sm, an_sv, am_sn, am_sm_e, am_sm_n, am_sv, ai_sn, ai_sm, ai_sv_e, ai_sv_n, reduceIte, or_false, false_or, or_true, true_or, or_self, and_true, true_and, and_false, false_and, not_true_eq_false, not_false_eq_true, h.mn hr]
      · refine Or.inr (Or.inl ⟨?_, ?_, Int32.not_le.mp h2⟩)
        · unfold f_X10_needPart; rw [nz0, if_neg h0, h.cn hr, if_pos h1, if_neg h2]; rfl
        · unfold f_X11_isPart; rw [isRow_ok hr]; simp (disch := omega) only [↓bnd_s, ↓bnd2_s, ↓bnd3_s, ↓bnd4_s, ↓bnd5_s, ↓bndR_l, ↓bndR_r, ↓bndX_l, ↓bndX_r, bnd_s, bnd2_s, bnd3_s, bnd4_s, bnd5_s, bndR_l, bndR_r, bndX_l, bndX_r, nq_lt, nq_le, nq_inj, nq_add, nq_mul, nq_sub, nq_div, nq_neg1, nq_clamp, nq_ne1, nq_le1, ne1_lt, n1_lt0, n1_lt, n1_ne, nz0, nz1, nz2, nz3, nz4, nz5, nz6, nz8, nz10, nz31, nz32, nz50, nz400, nz800, nz3200, nz20000, nlt_f, nlt_t, nle_f, nle_t, neq_f, neq_t, gi_si_e, gi_si_n, gp_sp_e, gp_sp_n, gr_sr_e, gr_sr_n, gi_sp, gi_sr, gp_si, gp_sr, gr_si, gr_sp, upd_e, upd_n, un_e, un_n, an_sn_e, an_sn_n, an_sm, an_sv, am_sn, am_sm_e, am_sm_n, am_sv, ai_sn, ai_sm, ai_sv_e, ai_sv_n, reduceIte, or_false, false_or, or_true, true_or, or_self, and_true, true_and, and_false, false_and, not_true_eq_false, not_false_eq_true, h.mn hr, h0, Int32.not_lt.mpr h1]
    · refine Or.inl ⟨?_, ?_⟩
      · unfold f_X10_needPart; rw [nz0, if_neg h0, h.cn hr, if_neg h1]; rfl
      · unfold f_X11_isPart; rw [isRow_ok hr]; simp (disch := omega) only [↓bnd_s, ↓bnd2_s, ↓bnd3_s, ↓bnd4_s, ↓bnd5_s, ↓bndR_l, ↓bndR_r, ↓bndX_l, ↓bndX_r, bnd_s, bnd2_s, bnd3_s, bnd4_s, bnd5_s, bndR_l, bndR_r, bndX_l, bndX_r, nq_lt, nq_le, nq_inj, nq_add, nq_mul, nq_sub, nq_div, nq_neg1, nq_clamp, nq_ne1, nq_le1, ne1_lt, n1_lt0, n1_lt, n1_ne, nz0, nz1, nz2, nz3, nz4, nz5, nz6, nz8, nz10, nz31, nz32, nz50, nz400, nz800, nz3200, nz20000, nlt_f, nlt_t, nle_f, nle_t, neq_f, neq_t, gi_si_e, gi_si_n, gp_sp_e, gp_sp_n, gr_sr_e, gr_sr_n, gi_sp, gi_sr, gp_si, gp_sr, gr_si, gr_sp, upd_e, upd_n, un_e, un_n, an_sn_e, an_sn_n, an_sm, an_sv, am_sn, am_sm_e, am_sm_n, am_sv, ai_sn, ai_sm, ai_sv_e, ai_sv_n, reduceIte, or_false, false_or, or_true, true_or, or_self, and_true, true_and, and_false, false_and, not_true_eq_false, not_false_eq_true, h.mn hr, h0, Int32.not_le.mp h1]
theorem isPart_no {x : Int32} (hb2 : f_X11_isRow x = some (nI 0)) (y z : Int32) (τ : St) : f_X11_isPart x y z τ = some (nI 0) := by
  unfold f_X11_isPart; rw [hb2]; simp (disch := omega) only [↓bnd_s, ↓bnd2_s, ↓bnd3_s, ↓bnd4_s, ↓bnd5_s, ↓bndR_l, ↓bndR_r, ↓bndX_l, ↓bndX_r, bnd_s, bnd2_s, bnd3_s, bnd4_s, bnd5_s, bndR_l, bndR_r, bndX_l, bndX_r, nq_lt, nq_le, nq_inj, nq_add, nq_mul, nq_sub, nq_div, nq_neg1, nq_clamp, nq_ne1, nq_le1, ne1_lt, n1_lt0, n1_lt, n1_ne, nz0, nz1, nz2, nz3, nz4, nz5, nz6, nz8, nz10, nz31, nz32, nz50, nz400, nz800, nz3200, nz20000, nlt_f, nlt_t, nle_f, nle_t, neq_f, neq_t, gi_si_e, gi_si_n, gp_sp_e, gp_sp_n, gr_sr_e, gr_sr_n, gi_sp, gi_sr, gp_si, gp_sr, gr_si, gr_sp, upd_e, upd_n, un_e, un_n, an_sn_e, an_sn_n, an_sm, an_sv, am_sn, am_sm_e, am_sm_n, am_sv, ai_sn, ai_sm, ai_sv_e, ai_sv_n, reduceIte, or_false, false_or, or_true, true_or, or_self, and_true, true_and, and_false, false_and, not_true_eq_false, not_false_eq_true]
theorem P_sortPart (h : REL a σ τ) (x y z : Int32) : AG [zI, zA] (f_X10_sortPart x y z σ) (f_X11_sortPart x y z τ) := by
  rcases row_cases x with ⟨r, hr, rfl⟩ | ⟨hb, hb2, -⟩
  · have hn := h.n hr
    rcases isPart_eq h hr y z with ⟨h1, h2⟩ | ⟨h1, h2, h3⟩ | ⟨p, e, rfl, rfl, h3, h4, h1, h2⟩
    · refine AG.no (v := 0) 0 rfl ?_ ?_ h
      · unfold f_X10_sortPart; rw [rowAt_ok hr, bndX_r, h1]; rfl
      · unfold f_X11_sortPart; rw [h2]; simp (disch := omega) only [↓bnd_s, ↓bnd2_s, ↓bnd3_s, ↓bnd4_s, ↓bnd5_s, ↓bndR_l, ↓bndR_r, ↓bndX_l, ↓bndX_r, bnd_s, bnd2_s, bnd3_s, bnd4_s, bnd5_s, bndR_l, bndR_r, bndX_l, bndX_r, nq_lt, nq_le, nq_inj, nq_add, nq_mul, nq_sub, nq_div, nq_neg1, nq_clamp, nq_ne1, nq_le1, ne1_lt, n1_lt0, n1_lt, n1_ne, nz0, nz1, nz2, nz3, nz4, nz5, nz6, nz8, nz10, nz31, nz32, nz50, nz400, nz800, nz3200, nz20000, nlt_f, nlt_t, nle_f, nle_t, neq_f, neq_t, gi_si_e, gi_si_n, gp_sp_e, gp_sp_n, gr_sr_e, gr_sr_n, gi_sp, gi_sr, gp_si, gp_sr, gr_si, gr_sp, upd_e, upd_n, un_e, un_n, an_sn_e, an_sn_n, an_sm, an_sv, am_sn, am_sm_e, am_sm_n, am_sv, ai_sn, ai_sm, ai_sv_e, ai_sv_n, reduceIte, or_false, false_or, or_true, true_or, or_self, and_true, true_and, and_false, false_and, not_true_eq_false, not_false_eq_true, refuse_eq]
    · refine AG.no (v := 0) 1 rfl ?_ ?_ h
      · unfold f_X10_sortPart; rw [rowAt_ok hr, bndX_r, h1]; rfl
      · unfold f_X11_sortPart; rw [h2]; simp (disch := omega) only [↓bnd_s, ↓bnd2_s, ↓bnd3_s, ↓bnd4_s, ↓bnd5_s, ↓bndR_l, ↓bndR_r, ↓bndX_l, ↓bndX_r, bnd_s, bnd2_s, bnd3_s, bnd4_s, bnd5_s, bndR_l, bndR_r, bndX_l, bndX_r, nq_lt, nq_le, nq_inj, nq_add, nq_mul, nq_sub, nq_div, nq_neg1, nq_clamp, nq_ne1, nq_le1, ne1_lt, n1_lt0, n1_lt, n1_ne, nz0, nz1, nz2, nz3, nz4, nz5, nz6, nz8, nz10, nz31, nz32, nz50, nz400, nz800, nz3200, nz20000, nlt_f, nlt_t, nle_f, nle_t, neq_f, neq_t, gi_si_e, gi_si_n, gp_sp_e, gp_sp_n, gr_sr_e, gr_sr_n, gi_sp, gi_sr, gp_si, gp_sr, gr_si, gr_sp, upd_e, upd_n, un_e, un_n, an_sn_e, an_sn_n, an_sm, an_sv, am_sn, am_sm_e, am_sm_n, am_sv, ai_sn, ai_sm, ai_sv_e, ai_sv_n, reduceIte, or_false, false_or, or_true, true_or, or_self, and_true, true_and, and_false, false_and, not_true_eq_false, not_false_eq_true, refuse_eq, Int32.not_le.mpr h3]
    · obtain ⟨c, σ', τ', a', k1, k2, k3⟩ := part_rel h (t := 0) (by omega) hr h3 h4
      refine AG.ok (nI c) ?_ ?_ k3
      · unfold f_X10_sortPart; rw [rowAt_ok hr, bndX_r, h1, bndX_r, show (0 : Nat) = oNo 0 from rfl, k1]; rfl
      · unfold f_X11_sortPart; rw [h2]; simp (disch := omega) only [↓bnd_s, ↓bnd2_s, ↓bnd3_s, ↓bnd4_s, ↓bnd5_s, ↓bndR_l, ↓bndR_r, ↓bndX_l, ↓bndX_r, bnd_s, bnd2_s, bnd3_s, bnd4_s, bnd5_s, bndR_l, bndR_r, bndX_l, bndX_r, nq_lt, nq_le, nq_inj, nq_add, nq_mul, nq_sub, nq_div, nq_neg1, nq_clamp, nq_ne1, nq_le1, ne1_lt, n1_lt0, n1_lt, n1_ne, nz0, nz1, nz2, nz3, nz4, nz5, nz6, nz8, nz10, nz31, nz32, nz50, nz400, nz800, nz3200, nz20000, nlt_f, nlt_t, nle_f, nle_t, neq_f, neq_t, gi_si_e, gi_si_n, gp_sp_e, gp_sp_n, gr_sr_e, gr_sr_n, gi_sp, gi_sr, gp_si, gp_sr, gr_si, gr_sp, upd_e, upd_n, un_e, un_n, an_sn_e, an_sn_n, an_sm, an_sv, am_sn, am_sm_e, am_sm_n, am_sv, ai_sn, ai_sm, ai_sv_e, ai_sv_n, reduceIte, or_false, false_or, or_true, true_or, or_self, and_true, true_and, and_false, false_and, not_true_eq_false, not_false_eq_true, k2, told_eq]
  · refine AG.no (v := 0) 0 rfl ?_ ?_ h
    · unfold f_X10_sortPart; rw [hb]; rfl
    · unfold f_X11_sortPart; rw [isPart_no hb2]; simp (disch := omega) only [↓bnd_s, ↓bnd2_s, ↓bnd3_s, ↓bnd4_s, ↓bnd5_s, ↓bndR_l, ↓bndR_r, ↓bndX_l, ↓bndX_r, bnd_s, bnd2_s, bnd3_s, bnd4_s, bnd5_s, bndR_l, bndR_r, bndX_l, bndX_r, nq_lt, nq_le, nq_inj, nq_add, nq_mul, nq_sub, nq_div, nq_neg1, nq_clamp, nq_ne1, nq_le1, ne1_lt, n1_lt0, n1_lt, n1_ne, nz0, nz1, nz2, nz3, nz4, nz5, nz6, nz8, nz10, nz31, nz32, nz50, nz400, nz800, nz3200, nz20000, nlt_f, nlt_t, nle_f, nle_t, neq_f, neq_t, gi_si_e, gi_si_n, gp_sp_e, gp_sp_n, gr_sr_e, gr_sr_n, gi_sp, gi_sr, gp_si, gp_sr, gr_si, gr_sp, upd_e, upd_n, un_e, un_n, an_sn_e, an_sn_n, an_sm, an_sv, am_sn, am_sm_e, am_sm_n, am_sv, ai_sn, ai_sm, ai_sv_e, ai_sv_n, reduceIte, or_false, false_or, or_true, true_or, or_self, and_true, true_and, and_false, false_and, not_true_eq_false, not_false_eq_true, refuse_eq]
theorem P_sortDown (h : REL a σ τ) (x y z : Int32) : AG [zI, zA] (f_X10_sortDown x y z σ) (f_X11_sortDown x y z τ) := by
  rcases row_cases x with ⟨r, hr, rfl⟩ | ⟨hb, hb2, -⟩
  · have hn := h.n hr
    rcases isPart_eq h hr y z with ⟨h1, h2⟩ | ⟨h1, h2, h3⟩ | ⟨p, e, rfl, rfl, h3, h4, h1, h2⟩
    · refine AG.no (v := 0) 0 rfl ?_ ?_ h
      · unfold f_X10_sortDown; rw [rowAt_ok hr, bndX_r, h1]; rfl
      · unfold f_X11_sortDown; rw [h2]; simp (disch := omega) only [↓bnd_s, ↓bnd2_s, ↓bnd3_s, ↓bnd4_s, ↓bnd5_s, ↓bndR_l, ↓bndR_r, ↓bndX_l, ↓bndX_r, bnd_s, bnd2_s, bnd3_s, bnd4_s, bnd5_s, bndR_l, bndR_r, bndX_l, bndX_r, nq_lt, nq_le, nq_inj, nq_add, nq_mul, nq_sub, nq_div, nq_neg1, nq_clamp, nq_ne1, nq_le1, ne1_lt, n1_lt0, n1_lt, n1_ne, nz0, nz1, nz2, nz3, nz4, nz5, nz6, nz8, nz10, nz31, nz32, nz50, nz400, nz800, nz3200, nz20000, nlt_f, nlt_t, nle_f, nle_t, neq_f, neq_t, gi_si_e, gi_si_n, gp_sp_e, gp_sp_n, gr_sr_e, gr_sr_n, gi_sp, gi_sr, gp_si, gp_sr, gr_si, gr_sp, upd_e, upd_n, un_e, un_n, an_sn_e, an_sn_n, an_sm, an_sv, am_sn, am_sm_e, am_sm_n, am_sv, ai_sn, ai_sm, ai_sv_e, ai_sv_n, reduceIte, or_false, false_or, or_true, true_or, or_self, and_true, true_and, and_false, false_and, not_true_eq_false, not_false_eq_true, refuse_eq]
    · refine AG.no (v := 0) 1 rfl ?_ ?_ h
      · unfold f_X10_sortDown; rw [rowAt_ok hr, bndX_r, h1]; rfl
      · unfold f_X11_sortDown; rw [h2]; simp (disch := omega) only [↓bnd_s, ↓bnd2_s, ↓bnd3_s, ↓bnd4_s, ↓bnd5_s, ↓bndR_l, ↓bndR_r, ↓bndX_l, ↓bndX_r, bnd_s, bnd2_s, bnd3_s, bnd4_s, bnd5_s, bndR_l, bndR_r, bndX_l, bndX_r, nq_lt, nq_le, nq_inj, nq_add, nq_mul, nq_sub, nq_div, nq_neg1, nq_clamp, nq_ne1, nq_le1, ne1_lt, n1_lt0, n1_lt, n1_ne, nz0, nz1, nz2, nz3, nz4, nz5, nz6, nz8, nz10, nz31, nz32, nz50, nz400, nz800, nz3200, nz20000, nlt_f, nlt_t, nle_f, nle_t, neq_f, neq_t, gi_si_e, gi_si_n, gp_sp_e, gp_sp_n, gr_sr_e, gr_sr_n, gi_sp, gi_sr, gp_si, gp_sr, gr_si, gr_sp, upd_e, upd_n, un_e, un_n, an_sn_e, an_sn_n, an_sm, an_sv, am_sn, am_sm_e, am_sm_n, am_sv, ai_sn, ai_sm, ai_sv_e, ai_sv_n, reduceIte, or_false, false_or, or_true, true_or, or_self, and_true, true_and, and_false, false_and, not_true_eq_false, not_false_eq_true, refuse_eq, h3]
    · by_cases h5 : e - p ≤ 31
      · obtain ⟨c, σ', τ', a', k1, k2, k3⟩ := part_rel h (t := 1) (by omega) hr h3 h4
        refine AG.ok (nI c) ?_ ?_ k3
        · unfold f_X10_sortDown; rw [rowAt_ok hr, bndX_r, h1, bndX_r, show (3 : Nat) = oNo 1 from rfl]; simp (disch := omega) only [↓bnd_s, ↓bnd2_s, ↓bnd3_s, ↓bnd4_s, ↓bnd5_s, ↓bndR_l, ↓bndR_r, ↓bndX_l, ↓bndX_r, bnd_s, bnd2_s, bnd3_s, bnd4_s, bnd5_s, bndR_l, bndR_r, bndX_l, bndX_r, nq_lt, nq_le, nq_inj, nq_add, nq_mul, nq_sub, nq_div, nq_neg1, nq_clamp, nq_ne1, nq_le1, ne1_lt, n1_lt0, n1_lt, n1_ne, nz0, nz1, nz2, nz3, nz4, nz5, nz6, nz8, nz10, nz31, nz32, nz50, nz400, nz800, nz3200, nz20000, nlt_f, nlt_t, nle_f, nle_t, neq_f, neq_t, gi_si_e, gi_si_n, gp_sp_e, gp_sp_n, gr_sr_e, gr_sr_n, gi_sp, gi_sr, gp_si, gp_sr, gr_si, gr_sp, upd_e, upd_n, un_e, un_n, an_sn_e, an_sn_n, an_sm, an_sv, am_sn, am_sm_e, am_sm_n, am_sv, ai_sn, ai_sm, ai_sv_e, ai_sv_n, reduceIte, or_false, false_or, or_true, true_or, or_self, and_true, true_and, and_false, false_and, not_true_eq_false, not_false_eq_true, k1]
        · unfold f_X11_sortDown; rw [h2]; simp (disch := omega) only [↓bnd_s, ↓bnd2_s, ↓bnd3_s, ↓bnd4_s, ↓bnd5_s, ↓bndR_l, ↓bndR_r, ↓bndX_l, ↓bndX_r, bnd_s, bnd2_s, bnd3_s, bnd4_s, bnd5_s, bndR_l, bndR_r, bndX_l, bndX_r, nq_lt, nq_le, nq_inj, nq_add, nq_mul, nq_sub, nq_div, nq_neg1, nq_clamp, nq_ne1, nq_le1, ne1_lt, n1_lt0, n1_lt, n1_ne, nz0, nz1, nz2, nz3, nz4, nz5, nz6, nz8, nz10, nz31, nz32, nz50, nz400, nz800, nz3200, nz20000, nlt_f, nlt_t, nle_f, nle_t, neq_f, neq_t, gi_si_e, gi_si_n, gp_sp_e, gp_sp_n, gr_sr_e, gr_sr_n, gi_sp, gi_sr, gp_si, gp_sr, gr_si, gr_sp, upd_e, upd_n, un_e, un_n, an_sn_e, an_sn_n, an_sm, an_sv, am_sn, am_sm_e, am_sm_n, am_sv, ai_sn, ai_sm, ai_sv_e, ai_sv_n, reduceIte, or_false, false_or, or_true, true_or, or_self, and_true, true_and, and_false, false_and, not_true_eq_false, not_false_eq_true, k2, told_eq]
      · refine AG.no (v := 0) 1 rfl ?_ ?_ h
        · unfold f_X10_sortDown; rw [rowAt_ok hr, bndX_r, h1, bndX_r]; simp (disch := omega) only [↓bnd_s, ↓bnd2_s, ↓bnd3_s, ↓bnd4_s, ↓bnd5_s, ↓bndR_l, ↓bndR_r, ↓bndX_l, ↓bndX_r, bnd_s, bnd2_s, bnd3_s, bnd4_s, bnd5_s, bndR_l, bndR_r, bndX_l, bndX_r, nq_lt, nq_le, nq_inj, nq_add, nq_mul, nq_sub, nq_div, nq_neg1, nq_clamp, nq_ne1, nq_le1, ne1_lt, n1_lt0, n1_lt, n1_ne, nz0, nz1, nz2, nz3, nz4, nz5, nz6, nz8, nz10, nz31, nz32, nz50, nz400, nz800, nz3200, nz20000, nlt_f, nlt_t, nle_f, nle_t, neq_f, neq_t, gi_si_e, gi_si_n, gp_sp_e, gp_sp_n, gr_sr_e, gr_sr_n, gi_sp, gi_sr, gp_si, gp_sr, gr_si, gr_sp, upd_e, upd_n, un_e, un_n, an_sn_e, an_sn_n, an_sm, an_sv, am_sn, am_sm_e, am_sm_n, am_sv, ai_sn, ai_sm, ai_sv_e, ai_sv_n, reduceIte, or_false, false_or, or_true, true_or, or_self, and_true, true_and, and_false, false_and, not_true_eq_false, not_false_eq_true]; rfl
        · unfold f_X11_sortDown; rw [h2]; simp (disch := omega) only [↓bnd_s, ↓bnd2_s, ↓bnd3_s, ↓bnd4_s, ↓bnd5_s, ↓bndR_l, ↓bndR_r, ↓bndX_l, ↓bndX_r, bnd_s, bnd2_s, bnd3_s, bnd4_s, bnd5_s, bndR_l, bndR_r, bndX_l, bndX_r, nq_lt, nq_le, nq_inj, nq_add, nq_mul, nq_sub, nq_div, nq_neg1, nq_clamp, nq_ne1, nq_le1, ne1_lt, n1_lt0, n1_lt, n1_ne, nz0, nz1, nz2, nz3, nz4, nz5, nz6, nz8, nz10, nz31, nz32, nz50, nz400, nz800, nz3200, nz20000, nlt_f, nlt_t, nle_f, nle_t, neq_f, neq_t, gi_si_e, gi_si_n, gp_sp_e, gp_sp_n, gr_sr_e, gr_sr_n, gi_sp, gi_sr, gp_si, gp_sr, gr_si, gr_sp, upd_e, upd_n, un_e, un_n, an_sn_e, an_sn_n, an_sm, an_sv, am_sn, am_sm_e, am_sm_n, am_sv, ai_sn, ai_sm, ai_sv_e, ai_sv_n, reduceIte, or_false, false_or, or_true, true_or, or_self, and_true, true_and, and_false, false_and, not_true_eq_false, not_false_eq_true, refuse_eq]
  · refine AG.no (v := 0) 0 rfl ?_ ?_ h
    · unfold f_X10_sortDown; rw [hb]; rfl
    · unfold f_X11_sortDown; rw [isPart_no hb2]; simp (disch := omega) only [↓bnd_s, ↓bnd2_s, ↓bnd3_s, ↓bnd4_s, ↓bnd5_s, ↓bndR_l, ↓bndR_r, ↓bndX_l, ↓bndX_r, bnd_s, bnd2_s, bnd3_s, bnd4_s, bnd5_s, bndR_l, bndR_r, bndX_l, bndX_r, nq_lt, nq_le, nq_inj, nq_add, nq_mul, nq_sub, nq_div, nq_neg1, nq_clamp, nq_ne1, nq_le1, ne1_lt, n1_lt0, n1_lt, n1_ne, nz0, nz1, nz2, nz3, nz4, nz5, nz6, nz8, nz10, nz31, nz32, nz50, nz400, nz800, nz3200, nz20000, nlt_f, nlt_t, nle_f, nle_t, neq_f, neq_t, gi_si_e, gi_si_n, gp_sp_e, gp_sp_n, gr_sr_e, gr_sr_n, gi_sp, gi_sr, gp_si, gp_sr, gr_si, gr_sp, upd_e, upd_n, un_e, un_n, an_sn_e, an_sn_n, an_sm, an_sv, am_sn, am_sm_e, am_sm_n, am_sv, ai_sn, ai_sm, ai_sv_e, ai_sv_n, reduceIte, or_false, false_or, or_true, true_or, or_self, and_true, true_and, and_false, false_and, not_true_eq_false, not_false_eq_true, refuse_eq]
end SC
