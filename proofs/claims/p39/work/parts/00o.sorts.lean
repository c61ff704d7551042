/-! sorting rows: a part of the list becomes its sorted one -/
def prt (key : Int32 → Int) (p e : Nat) (L : List Int32) : List Int32 := L.take p ++ (isrt key ((L.drop p).take (e - p)) ++ L.drop e)
def gL (L : List Int32) : Nat → Int32 := fun k => (L[k]?).getD 0
section QS
variable {a : AS} {R : QR} {σ σ' : St}
theorem seg_all {f : Nat → Int32} {L : List Int32} (h : seg f 0 L.length = L) {p e : Nat} (hpe : p ≤ e) (he : e ≤ L.length) : seg f p (e - p) = (L.drop p).take (e - p) := by
  refine List.ext_getElem? fun k => ?_
  by_cases hk : k < e - p
  · rw [seg_get f _ _ _ hk, List.getElem?_take_of_lt hk, List.getElem?_drop, seg_of h (by omega)]
  · rw [List.getElem?_eq_none (by rw [seg_len]; omega), List.getElem?_eq_none (by rw [List.length_take]; omega)]
theorem prt_len (key : Int32 → Int) {p e : Nat} {L : List Int32} (hpe : p ≤ e) (he : e ≤ L.length) : (prt key p e L).length = L.length := by
  unfold prt
  rw [List.length_append, List.length_append, isrt_len, List.length_take, List.length_take, List.length_drop, List.length_drop]
  omega
theorem prt_mem {key : Int32 → Int} {p e : Nat} {L : List Int32} {x : Int32} (h : x ∈ prt key p e L) : x ∈ L := by
  unfold prt at h
  rcases List.mem_append.mp h with h | h
  · exact List.mem_of_mem_take h
  · rcases List.mem_append.mp h with h | h
    · exact List.mem_of_mem_drop (List.mem_of_mem_take (isrt_mem h))
    · exact List.mem_of_mem_drop h
theorem prt_seg {f : Nat → Int32} {L : List Int32} {key : Int32 → Int} (h : seg f 0 L.length = L) {p e : Nat} (hpe : p ≤ e) (he : e ≤ L.length) : seg (wr f p (isrt key ((L.drop p).take (e - p)))) 0 L.length = prt key p e L := by
  have hl : (isrt key ((L.drop p).take (e - p))).length = e - p := by rw [isrt_len, List.length_take, List.length_drop]; omega
  refine List.ext_getElem? fun k => ?_
  by_cases hk : k < L.length
  · rw [seg_get _ _ _ _ hk, Nat.zero_add]
    unfold prt
    by_cases h1 : k < p
    · rw [wr_out _ (Or.inl h1), List.getElem?_append_left (by rw [List.length_take]; omega), List.getElem?_take_of_lt h1, seg_of h hk]
    · rw [List.getElem?_append_right (by rw [List.length_take]; omega), List.length_take, Nat.min_eq_left (by omega)]
      by_cases h2 : k < e
      · rw [List.getElem?_append_left (by omega)]
        have h3 := List.getElem?_eq_getElem (l := isrt key ((L.drop p).take (e - p))) (i := k - p) (by omega)
        rw [h3, wr_in _ (by omega) h3]
      · rw [List.getElem?_append_right (by omega), hl, wr_out _ (Or.inr (by omega)), List.getElem?_drop, show e + (k - p - (e - p)) = k by omega, seg_of h hk]
  · rw [List.getElem?_eq_none (by rw [seg_len]; omega), List.getElem?_eq_none (by rw [prt_len _ hpe he]; omega)]
theorem prt_mid (key : Int32 → Int) {p e : Nat} {L : List Int32} (hpe : p ≤ e) (he : e ≤ L.length) : ((prt key p e L).drop p).take (e - p) = isrt key ((L.drop p).take (e - p)) := by
  have hl : (isrt key ((L.drop p).take (e - p))).length = e - p := by rw [isrt_len, List.length_take, List.length_drop]; omega
  have h1 : (L.take p).length = p := by rw [List.length_take]; omega
  unfold prt
  rw [List.drop_append_of_le_length (by omega), List.drop_eq_nil_of_le (by omega), List.nil_append, List.take_append_of_le_length (by omega), List.take_of_length_le (by omega)]
theorem prt_prt (key : Int32 → Int) {p e : Nat} {L : List Int32} (hpe : p ≤ e) (he : e ≤ L.length) : prt key p e (prt key p e L) = prt key p e L := by
  have hl : (isrt key ((L.drop p).take (e - p))).length = e - p := by rw [isrt_len, List.length_take, List.length_drop]; omega
  have h1 : (L.take p).length = p := by rw [List.length_take]; omega
  have h2 := prt_mid key hpe he
  unfold prt at h2 ⊢
  rw [h2, isrt_id ((isrt_srt key _ _ rfl).1)]
  congr 1
  · rw [List.take_append_of_le_length (by omega), List.take_of_length_le (by omega)]
  · congr 1
    rw [← List.append_assoc, List.drop_append_of_le_length (by rw [List.length_append]; omega), List.drop_eq_nil_of_le (by rw [List.length_append]; omega), List.nil_append]
/-- how many places get another card -/
theorem E_part (h : qIN a R σ) {t r p e : Nat} (ht : t < 4) (hr : r < 4) (hpe : p ≤ e) (he : e ≤ (R r).length) :
    ∃ σ', f_X10_arrangePart (16 + r) (nI p) (nI e) (oNo t) σ = some (nI (dif (fun k => gL (R r) (p + k)) (gL (isrt (ky a t) (((R r).drop p).take (e - p)))) (e - p)), σ') ∧ qIN a (qRs R r (prt (ky a t) p e (R r))) σ' := by
  have hn := h.len hr
  obtain ⟨m, m', hS⟩ := h.so
  obtain ⟨σ', k1, k2, k3, k4, k5, k6⟩ := arrPart_eq h.m ht h.cd (j := 16 + r) (p := p) (e := e) (by omega) hpe (by omega) hS (fun q _ hq => h.mk hr (by omega))
  have hsg := seg_all (h.sg hr) hpe he
  rw [hsg] at k1 k5
  have hl : (isrt (ky a t) (((R r).drop p).take (e - p))).length = e - p := by rw [isrt_len, List.length_take, List.length_drop]; omega
  refine ⟨σ', ?_, h.set hr (by rw [prt_len _ hpe he]; exact hn) (fun x hx => h.vl hr x (prt_mem hx)) ⟨?_, ?_⟩ (fun k h1 _ => k2 k h1) (fun i h1 h2 h3 => k6 i h1 h2 h3) k4⟩
  · rw [k1]
    congr 3
    refine dif_congr (fun k hk => ?_) (fun k hk => ?_)
    · unfold gL
      rw [h.at hr (by omega)]; rfl
    · have h3 := List.getElem?_eq_getElem (l := isrt (ky a t) (((R r).drop p).take (e - p))) (i := k) (by omega)
      unfold gL
      rw [h3, wr_in _ (by omega) (x := (isrt (ky a t) (((R r).drop p).take (e - p)))[k]'(by omega)) (by rw [Nat.add_sub_cancel_left]; exact h3)]; rfl
  · rw [prt_len _ hpe he, k2 _ (by omega)]; exact h.sz hr
  · rw [prt_len _ hpe he, k5]; exact prt_seg (h.sg hr) hpe he
/-- none, the second time -/
theorem dif_prt (key : Int32 → Int) {p e : Nat} {L : List Int32} (hpe : p ≤ e) (he : e ≤ L.length) : dif (fun k => gL (prt key p e L) (p + k)) (gL (isrt key (((prt key p e L).drop p).take (e - p)))) (e - p) = 0 := by
  have h2 := prt_mid key hpe he
  rw [h2, isrt_id ((isrt_srt key _ _ rfl).1)]
  refine dif_0 fun k hk => ?_
  unfold gL
  rw [← h2, List.getElem?_take_of_lt hk, List.getElem?_drop]
def srtN (a : AS) (t : Nat) (L : List Int32) : Nat := dif (gL L) (gL (isrt (ky a t) L)) L.length
theorem prt_row (key : Int32 → Int) (L : List Int32) : prt key 0 L.length L = isrt key L := by
  unfold prt
  rw [Nat.sub_zero, List.drop_zero, List.take_zero, List.nil_append, List.take_of_length_le (Nat.le_refl _), List.drop_eq_nil_of_le (Nat.le_refl _), List.append_nil]
theorem E_row (h : qIN a R σ) {t r : Nat} (ht : t < 4) (hr : r < 4) :
    ∃ σ', f_X10_arrangeRow (16 + r) (oNo t) σ = some (nI (srtN a t (R r)), σ') ∧ qIN a (qRs R r (isrt (ky a t) (R r))) σ' := by
  obtain ⟨σ', h1, h2⟩ := E_part h ht hr (Nat.zero_le _) (Nat.le_refl _)
  rw [prt_row] at h2
  rw [Nat.sub_zero, List.drop_zero, List.take_of_length_le (Nat.le_refl _)] at h1
  refine ⟨σ', ?_, h2⟩
  unfold f_X10_arrangeRow
  rw [h.sz hr, nz0, h1, bnd2_s]
  unfold srtN
  congr 4
  funext k
  rw [Nat.zero_add]
theorem srtN_id {t : Nat} {L : List Int32} (h : sortedK (ky a t) L) : srtN a t L = 0 := by
  unfold srtN
  rw [isrt_id h]
  exact dif_0 fun _ _ => rfl
theorem srtN_is (t : Nat) (L : List Int32) : srtN a t (isrt (ky a t) L) = 0 := srtN_id (isrt_srt _ _ _ rfl).1
theorem E_sort (h : qIN a R σ) {r : Nat} (hr : r < 4) : ∃ σ', f_X10_sort (nI r) σ = some (.inr (nI (srtN a 0 (R r))), σ') ∧ qIN a (qRs R r (isrt (ky a 0) (R r))) σ' := by
  obtain ⟨σ', h1, h2⟩ := E_row h (t := 0) (by omega) hr
  refine ⟨σ', ?_, h2⟩
  unfold f_X10_sort
  rw [rowAt_ok hr, bndX_r, show (0 : Nat) = oNo 0 from rfl, h1]; rfl
theorem E_sort_no (σ : St) : f_X10_sort (nI 4) σ = some (.inl zI, σ) := by
  unfold f_X10_sort
  rw [row_no rfl]; rfl
theorem E_sortBySecond (h : qIN a R σ) {r : Nat} (hr : r < 4) : ∃ σ', f_X10_sortBySecond (nI r) σ = some (.inr (nI (srtN a 2 (R r))), σ') ∧ qIN a (qRs R r (isrt (ky a 2) (R r))) σ' := by
  obtain ⟨σ', h1, h2⟩ := E_row h (t := 2) (by omega) hr
  refine ⟨σ', ?_, h2⟩
  unfold f_X10_sortBySecond
  rw [rowAt_ok hr, bndX_r, show (1 : Nat) = oNo 2 from rfl, h1]; rfl
theorem E_sortByBoth (h : qIN a R σ) {r : Nat} (hr : r < 4) : ∃ σ', f_X10_sortByBoth (nI r) σ = some (.inr (nI (srtN a 3 (R r))), σ') ∧ qIN a (qRs R r (isrt (ky a 3) (R r))) σ' := by
  obtain ⟨σ', h1, h2⟩ := E_row h (t := 3) (by omega) hr
  refine ⟨σ', ?_, h2⟩
  unfold f_X10_sortByBoth
  rw [rowAt_ok hr, bndX_r, show (2 : Nat) = oNo 3 from rfl, h1]; rfl
theorem needPart_ok (h : qIN a R σ) {r p e : Nat} (hr : r < 4) (hpe : p ≤ e) (he : e ≤ (R r).length) : f_X10_needPart (16 + r) (nI p) (nI e) σ = some (.inr ()) := by
  have hn := h.len hr
  unfold f_X10_needPart
  simp (disch := omega) only [↓bnd_s, ↓bnd2_s, ↓bnd3_s, ↓bnd4_s, ↓bnd5_s, ↓bndR_l, ↓bndR_r, ↓bndX_l, ↓bndX_r, ↓bndQ_s, ↓bndQ2_s, bndQ_s, bndQ2_s, bnd_s, bnd2_s, bnd3_s, bnd4_s, bnd5_s, bndR_l, bndR_r, bndX_l, bndX_r, nq_lt, nq_le, nq_inj, nq_add, nq_mul, nq_sub, nq_div, nq_neg1, nq_clamp, nq_ne1, nq_le1, ne1_lt, n1_lt0, n1_lt, n1_ne, nz0, nz1, nz2, nz3, nz4, nz5, nz6, nz8, nz10, nz31, nz32, nz50, nz400, nz800, nz3200, nz20000, nlt_f, nlt_t, nle_f, nle_t, neq_f, neq_t, gi_si_e, gi_si_n, gp_sp_e, gp_sp_n, gr_sr_e, gr_sr_n, gi_sp, gi_sr, gp_si, gp_sr, gr_si, gr_sp, upd_e, upd_n, un_e, un_n, an_sn_e, an_sn_n, an_sm, an_sv, am_sn, am_sm_e, am_sm_n, am_sv, ai_sn, ai_sm, ai_sv_e, ai_sv_n, reduceIte, or_false, false_or, or_true, true_or, or_self, and_true, true_and, and_false, false_and, not_true_eq_false, not_false_eq_true, h.sz hr]
theorem E_sortPart (h : qIN a R σ) {r p e : Nat} (hr : r < 4) (hpe : p ≤ e) (he : e ≤ (R r).length) :
    ∃ σ', f_X10_sortPart (nI r) (nI p) (nI e) σ = some (.inr (nI (dif (fun k => gL (R r) (p + k)) (gL (isrt (ky a 0) (((R r).drop p).take (e - p)))) (e - p))), σ') ∧ qIN a (qRs R r (prt (ky a 0) p e (R r))) σ' := by
  obtain ⟨σ', h1, h2⟩ := E_part h (t := 0) (by omega) hr hpe he
  refine ⟨σ', ?_, h2⟩
  unfold f_X10_sortPart
  rw [rowAt_ok hr, bndX_r, needPart_ok h hr hpe he, bndX_r, show (0 : Nat) = oNo 0 from rfl, h1]; rfl
theorem E_sortDown (h : qIN a R σ) {r p e : Nat} (hr : r < 4) (hpe : p ≤ e) (he : e ≤ (R r).length) (h31 : e - p ≤ 31) :
    ∃ σ', f_X10_sortDown (nI r) (nI p) (nI e) σ = some (.inr (nI (dif (fun k => gL (R r) (p + k)) (gL (isrt (ky a 1) (((R r).drop p).take (e - p)))) (e - p))), σ') ∧ qIN a (qRs R r (prt (ky a 1) p e (R r))) σ' := by
  have hn := h.len hr
  obtain ⟨σ', h1, h2⟩ := E_part h (t := 1) (by omega) hr hpe he
  refine ⟨σ', ?_, h2⟩
  unfold f_X10_sortDown
  rw [rowAt_ok hr, bndX_r, needPart_ok h hr hpe he, bndX_r, show (3 : Nat) = oNo 1 from rfl, h1, nq_sub hpe, if_pos (show nI (e - p) ≤ (31 : Int32) from (nq_le (b := 31) (by omega) (by decide)).mpr h31)]; rfl
theorem E_sortPart_no1 (h : qIN a R σ) : f_X10_sortPart (nI 0) (nI 0) (nI ((R 0).length + 1)) σ = some (.inl zI, σ) := by
  have hn := h.len (r := 0) (by omega)
  have hz := h.sz (r := 0) (by omega)
  unfold f_X10_sortPart f_X10_needPart
  rw [rowAt_ok (by omega), bndX_r]
  simp (disch := omega) only [↓bnd_s, ↓bnd2_s, ↓bnd3_s, ↓bnd4_s, ↓bnd5_s, ↓bndR_l, ↓bndR_r, ↓bndX_l, ↓bndX_r, ↓bndQ_s, ↓bndQ2_s, bndQ_s, bndQ2_s, bnd_s, bnd2_s, bnd3_s, bnd4_s, bnd5_s, bndR_l, bndR_r, bndX_l, bndX_r, nq_lt, nq_le, nq_inj, nq_add, nq_mul, nq_sub, nq_div, nq_neg1, nq_clamp, nq_ne1, nq_le1, ne1_lt, n1_lt0, n1_lt, n1_ne, nz0, nz1, nz2, nz3, nz4, nz5, nz6, nz8, nz10, nz31, nz32, nz50, nz400, nz800, nz3200, nz20000, nlt_f, nlt_t, nle_f, nle_t, neq_f, neq_t, gi_si_e, gi_si_n, gp_sp_e, gp_sp_n, gr_sr_e, gr_sr_n, gi_sp, gi_sr, gp_si, gp_sr, gr_si, gr_sp, upd_e, upd_n, un_e, un_n, an_sn_e, an_sn_n, an_sm, an_sv, am_sn, am_sm_e, am_sm_n, am_sv, ai_sn, ai_sm, ai_sv_e, ai_sv_n, reduceIte, or_false, false_or, or_true, true_or, or_self, and_true, true_and, and_false, false_and, not_true_eq_false, not_false_eq_true, hz]; rfl
theorem E_sortPart_no2 (h : qIN a R σ) : f_X10_sortPart (nI 0) (nI 1) (nI 0) σ = some (.inl zA, σ) := by
  have hn := h.len (r := 0) (by omega)
  have hz := h.sz (r := 0) (by omega)
  unfold f_X10_sortPart f_X10_needPart
  rw [rowAt_ok (by omega), bndX_r]
  simp (disch := omega) only [↓bnd_s, ↓bnd2_s, ↓bnd3_s, ↓bnd4_s, ↓bnd5_s, ↓bndR_l, ↓bndR_r, ↓bndX_l, ↓bndX_r, ↓bndQ_s, ↓bndQ2_s, bndQ_s, bndQ2_s, bnd_s, bnd2_s, bnd3_s, bnd4_s, bnd5_s, bndR_l, bndR_r, bndX_l, bndX_r, nq_lt, nq_le, nq_inj, nq_add, nq_mul, nq_sub, nq_div, nq_neg1, nq_clamp, nq_ne1, nq_le1, ne1_lt, n1_lt0, n1_lt, n1_ne, nz0, nz1, nz2, nz3, nz4, nz5, nz6, nz8, nz10, nz31, nz32, nz50, nz400, nz800, nz3200, nz20000, nlt_f, nlt_t, nle_f, nle_t, neq_f, neq_t, gi_si_e, gi_si_n, gp_sp_e, gp_sp_n, gr_sr_e, gr_sr_n, gi_sp, gi_sr, gp_si, gp_sr, gr_si, gr_sp, upd_e, upd_n, un_e, un_n, an_sn_e, an_sn_n, an_sm, an_sv, am_sn, am_sm_e, am_sm_n, am_sv, ai_sn, ai_sm, ai_sv_e, ai_sv_n, reduceIte, or_false, false_or, or_true, true_or, or_self, and_true, true_and, and_false, false_and, not_true_eq_false, not_false_eq_true, hz]; rfl
/-- the copy that is sorted -/
theorem E_copy (h : qIN a R σ) {r : Nat} (hr : r < 4) :
    ∃ σ' M M', f_X10_sortCopy (16 + r) σ = some (nI (invs (ky a 0) (R r)), σ') ∧ qIN a R σ' ∧ SO σ' M M' ∧ gi σ' 59 = nI (R r).length ∧ seg (gr σ' M) 0 (R r).length = isrt (ky a 0) (R r) ∧ ∀ k, k ≠ 59 → gi σ' k = gi σ k := by
  have hn := h.len hr
  have hm := h.m
  obtain ⟨m, m', hS⟩ := h.so
  have h89 := hS.2.2
  have t1 := take_eq (j := 16 + r) (p := 0) (e := (R r).length) (by omega) hn (by omega) (s := 0) (σ := si σ 59 (nI 0)) (m := m) (m' := m') ⟨hS.1, hS.2.1, h89⟩ (gi_si_e _ _ rfl) (by omega)
  rw [sr_si, si_si, gr_si, gr_si, Nat.zero_add, Nat.sub_zero, h.sg hr] at t1
  obtain ⟨X, hX⟩ : ∃ z, z = wr (gr σ m) 0 (R r) := ⟨_, rfl⟩
  rw [← hX] at t1
  have hseg : seg X 0 (R r).length = R r := by rw [hX]; exact seg_wr _ _ _
  have eX : gr (si (sr σ m X) 59 (nI (R r).length)) m = X := by rw [gr_si, gr_sr_e _ _ rfl]
  obtain ⟨σ1, M, M', k1, k2, k3, k4⟩ := arrange_eq hm (t := 0) (by omega) (n := (R r).length) (m := m) (m' := m') (σ := si (sr σ m X) 59 (nI (R r).length)) (by omega) (h.cd.fr (by simp (disch := omega) only [gi_si_e, gi_si_n, gp_sp_e, gp_sp_n, gr_sr_e, gr_sr_n, gi_sp, gi_sr, gp_si, gp_sr, gr_si, gr_sp, upd_e, upd_n, un_e, un_n, an_sn_e, an_sn_n, an_sm, an_sv, am_sn, am_sm_e, am_sm_n, am_sv, ai_sn, ai_sm, ai_sv_e, ai_sv_n, reduceIte, or_false, false_or, or_true, true_or, or_self, and_true, true_and, and_false, false_and, not_true_eq_false, not_false_eq_true]) (by simp (disch := omega) only [gi_si_e, gi_si_n, gp_sp_e, gp_sp_n, gr_sr_e, gr_sr_n, gi_sp, gi_sr, gp_si, gp_sr, gr_si, gr_sp, upd_e, upd_n, un_e, un_n, an_sn_e, an_sn_n, an_sm, an_sv, am_sn, am_sm_e, am_sm_n, am_sv, ai_sn, ai_sm, ai_sv_e, ai_sv_n, reduceIte, or_false, false_or, or_true, true_or, or_self, and_true, true_and, and_false, false_and, not_true_eq_false, not_false_eq_true]) (by simp (disch := omega) only [gi_si_e, gi_si_n, gp_sp_e, gp_sp_n, gr_sr_e, gr_sr_n, gi_sp, gi_sr, gp_si, gp_sr, gr_si, gr_sp, upd_e, upd_n, un_e, un_n, an_sn_e, an_sn_n, an_sm, an_sv, am_sn, am_sm_e, am_sm_n, am_sv, ai_sn, ai_sm, ai_sv_e, ai_sv_n, reduceIte, or_false, false_or, or_true, true_or, or_self, and_true, true_and, and_false, false_and, not_true_eq_false, not_false_eq_true])) ⟨hS.1, hS.2.1, h89⟩ (gi_si_e _ _ rfl) (fun q hq => by
    rw [eX]
    have e := seg_of hseg hq
    exact h.vl hr _ (List.mem_of_getElem? e))
  rw [eX, hseg] at k1 k4
  have g1 : ∀ k, k ≠ 59 → gi σ1 k = gi σ k := fun k hk => by rw [k2.1, gi_si_n _ _ hk]; rfl
  have g2 : ∀ i, i ≠ 8 → i ≠ 9 → gr σ1 i = gr σ i := fun i h1 h2 => by rw [k2.2.2 _ h1 h2, gr_si, gr_sr_n _ _ (by omega)]
  have hq := h.set hr (σ' := σ1) hn (h.vl hr) ⟨(g1 _ (by omega)).trans (h.sz hr), by rw [g2 _ (by omega) (by omega)]; exact h.sg hr⟩ (fun k h1 _ => g1 k h1) (fun i h1 h2 _ => g2 i h1 h2) ⟨M, M', k3⟩
  rw [qRs_id] at hq
  refine ⟨σ1, M, M', ?_, hq, k3, (k2.1 59).trans (gi_si_e _ _ rfl), k4, g1⟩
  unfold f_X10_sortCopy f_X8_clear
  rw [nz0, bnd_s, show gi (si σ 59 (nI 0)) (8 * (16 + r) + 1) = nI (R r).length by rw [gi_si_n _ _ (by omega), h.sz hr], t1, bnd_s, show (0 : Nat) = oNo 0 from rfl, k1]; rfl
theorem E_wrongPairs (h : qIN a R σ) {r : Nat} (hr : r < 4) (hs : sortedK (ky a 0) (R r)) : ∃ σ', f_X10_wrongPairs (nI r) σ = some (.inr (nI 0), σ') ∧ qIN a R σ' := by
  obtain ⟨σ', M, M', k1, k2, -⟩ := E_copy h hr
  rw [SRT.invs0 hs] at k1
  refine ⟨σ', ?_, k2⟩
  unfold f_X10_wrongPairs
  rw [rowAt_ok hr, bndX_r, k1]; rfl
theorem E_middle (h : qIN a R σ) {r : Nat} (hr : r < 4) (hs : sortedK (ky a 0) (R r)) {x : Int32} (hx : (R r)[((R r).length - 1) / 2]? = some x) : ∃ σ', f_X10_middle (nI r) σ = some (.inr (qFs a x), σ') ∧ qIN a R σ' := by
  have hn := h.len hr
  have hk := (h.gt hr hx).1
  obtain ⟨σ', M, M', k1, k2, k3, k4, k5, k6⟩ := E_copy h hr
  rw [isrt_id hs] at k5
  have e := seg_of k5 hk
  rw [hx] at e
  obtain ⟨i, hi, ei⟩ := h.vl hr x (List.mem_of_getElem? hx)
  have t := tabAt k2.m k2.cd k3 k4 (by omega) hk hi ((Option.some.inj e).symm.trans ei)
  have eq : ai a 0 i = qFs a x := by rw [ei]; unfold qFs; rw [nq_clamp (by have := h.m; omega)]
  rw [eq] at t
  refine ⟨σ', ?_, k2⟩
  unfold f_X10_middle
  rw [rowAt_ok hr, bndX_r]
  have z := (k6 (8 * (16 + r) + 1) (by omega)).trans (h.sz hr)
  simp (disch := omega) only [↓bnd_s, ↓bnd2_s, ↓bnd3_s, ↓bnd4_s, ↓bnd5_s, ↓bndR_l, ↓bndR_r, ↓bndX_l, ↓bndX_r, ↓bndQ_s, ↓bndQ2_s, bndQ_s, bndQ2_s, bnd_s, bnd2_s, bnd3_s, bnd4_s, bnd5_s, bndR_l, bndR_r, bndX_l, bndX_r, nq_lt, nq_le, nq_inj, nq_add, nq_mul, nq_sub, nq_div, nq_neg1, nq_clamp, nq_ne1, nq_le1, ne1_lt, n1_lt0, n1_lt, n1_ne, nz0, nz1, nz2, nz3, nz4, nz5, nz6, nz8, nz10, nz31, nz32, nz50, nz400, nz800, nz3200, nz20000, nlt_f, nlt_t, nle_f, nle_t, neq_f, neq_t, gi_si_e, gi_si_n, gp_sp_e, gp_sp_n, gr_sr_e, gr_sr_n, gi_sp, gi_sr, gp_si, gp_sr, gr_si, gr_sp, upd_e, upd_n, un_e, un_n, an_sn_e, an_sn_n, an_sm, an_sv, am_sn, am_sm_e, am_sm_n, am_sv, ai_sn, ai_sm, ai_sv_e, ai_sv_n, reduceIte, or_false, false_or, or_true, true_or, or_self, and_true, true_and, and_false, false_and, not_true_eq_false, not_false_eq_true, h.sz hr, k1, z, t]
end QS
