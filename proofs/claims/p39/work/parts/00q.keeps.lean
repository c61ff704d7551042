/-! kept, restored, put in, found; all of them together -/
theorem cpy_seg {f g : Nat → Int32} {L : List Int32} (h : seg f 0 L.length = L) : seg (va_cpy f g 0 0 L.length) 0 L.length = L := by
  refine Eq.trans (seg_congr fun k hk => ?_) h
  rw [cpy_i _ _ (by omega) (by omega), show 0 + (0 + k - 0) = 0 + k by omega]
theorem ins_len {L : List Int32} {p : Nat} (hp : p ≤ L.length) (v : Int32) : (L.take p ++ v :: L.drop p).length = L.length + 1 := by
  rw [List.length_append, List.length_cons, List.length_take, List.length_drop]; omega
theorem ins_seg {f : Nat → Int32} {L : List Int32} (h : seg f 0 L.length = L) {p : Nat} (hp : p ≤ L.length) (v : Int32) : seg (upd (va_cpy f f p (p + 1) (L.length - p)) p v) 0 (L.take p ++ v :: L.drop p).length = L.take p ++ v :: L.drop p := by
  have hl := ins_len hp v
  refine List.ext_getElem? fun k => ?_
  by_cases hk : k < L.length + 1
  · rw [seg_get _ _ _ _ (by omega), Nat.zero_add]
    by_cases h1 : k < p
    · rw [upd_n _ _ (by omega), cpy_o _ _ (Or.inl (by omega)), List.getElem?_append_left (by rw [List.length_take]; omega), List.getElem?_take_of_lt h1, seg_of h (by omega)]
    · rw [List.getElem?_append_right (by rw [List.length_take]; omega), List.length_take, Nat.min_eq_left hp]
      by_cases h2 : k = p
      · rw [upd_e _ _ h2, h2, Nat.sub_self]; rfl
      · obtain ⟨j, rfl⟩ : ∃ j, k = p + (j + 1) := ⟨k - p - 1, by omega⟩
        rw [upd_n _ _ h2, cpy_i _ _ (by omega) (by omega), show p + (p + (j + 1) - (p + 1)) = p + j by omega, Nat.add_sub_cancel_left, List.getElem?_cons_succ, List.getElem?_drop, seg_of h (by omega)]
  · rw [List.getElem?_eq_none (by rw [seg_len]; omega), List.getElem?_eq_none (by omega)]
theorem sk_le {key : Int32 → Int} {L : List Int32} (hs : sortedK key L) {i j : Nat} {x y : Int32} (hi : L[i]? = some x) (hj : L[j]? = some y) (hij : i ≤ j) : key x ≤ key y := by
  obtain ⟨h1, e1⟩ := List.getElem?_eq_some_iff.mp hi
  obtain ⟨h2, e2⟩ := List.getElem?_eq_some_iff.mp hj
  by_cases e : i = j
  · subst e
    rw [hi] at hj
    rw [Option.some.inj hj]; exact Int.le_refl _
  · have := List.pairwise_iff_getElem.mp hs i j h1 h2 (by omega)
    rw [e1, e2] at this
    exact this
theorem ins_sorted {key : Int32 → Int} {L : List Int32} {p : Nat} {v : Int32} (hs : sortedK key L) (hp : p ≤ L.length) (h1 : ∀ k x, k < p → L[k]? = some x → key x ≤ key v) (h2 : ∀ x, L[p]? = some x → key v ≤ key x) : sortedK key (L.take p ++ v :: L.drop p) := by
  have hd : ∀ y, y ∈ L.drop p → key v ≤ key y := fun y hy => by
    obtain ⟨j, hj⟩ := List.getElem?_of_mem hy
    rw [List.getElem?_drop] at hj
    have hj2 := (List.getElem?_eq_some_iff.mp hj).1
    have e := List.getElem?_eq_getElem (l := L) (i := p) (by omega)
    have q1 := h2 _ e
    have q2 := sk_le hs e hj (by omega)
    omega
  have ht : ∀ x, x ∈ L.take p → key x ≤ key v := fun x hx => by
    obtain ⟨k, hk⟩ := List.getElem?_of_mem hx
    have hk2 := (List.getElem?_eq_some_iff.mp hk).1
    rw [List.length_take] at hk2
    rw [List.getElem?_take_of_lt (by omega)] at hk
    exact h1 k x (by omega) hk
  refine List.pairwise_append.mpr ⟨List.Pairwise.sublist (List.take_sublist _ _) hs, List.pairwise_cons.mpr ⟨hd, List.Pairwise.sublist (List.drop_sublist _ _) hs⟩, fun x hx y hy => ?_⟩
  rcases List.mem_cons.mp hy with rfl | hy
  · exact ht x hx
  · have q1 := ht x hx
    have q2 := hd y hy
    omega
/-- a card is made -/
def mkA (a : AS) (x y : Int32) : AS := sv (sv (sn a 0 (an a 0 + 1)) 0 (upd (ai a 0) (an a 0) x)) 1 (upd (ai a 1) (an a 0) y)
def mkS (σ : St) (m : Nat) (x y : Int32) : St := si (sr (sr σ 2 (upd (gr σ 2) m x)) 3 (upd (gr σ 3) m y)) 10 (nI (m + 1))
theorem mkA_0 (a : AS) (x y : Int32) : an (mkA a x y) 0 = an a 0 + 1 := by unfold mkA; simp (disch := omega) only [gi_si_e, gi_si_n, gp_sp_e, gp_sp_n, gr_sr_e, gr_sr_n, gi_sp, gi_sr, gp_si, gp_sr, gr_si, gr_sp, upd_e, upd_n, un_e, un_n, an_sn_e, an_sn_n, an_sm, an_sv, am_sn, am_sm_e, am_sm_n, am_sv, ai_sn, ai_sm, ai_sv_e, ai_sv_n, reduceIte, or_false, false_or, or_true, true_or, or_self, and_true, true_and, and_false, false_and, not_true_eq_false, not_false_eq_true]
theorem mkA_f (a : AS) (x y : Int32) : ai (mkA a x y) 0 = upd (ai a 0) (an a 0) x := by unfold mkA; simp (disch := omega) only [gi_si_e, gi_si_n, gp_sp_e, gp_sp_n, gr_sr_e, gr_sr_n, gi_sp, gi_sr, gp_si, gp_sr, gr_si, gr_sp, upd_e, upd_n, un_e, un_n, an_sn_e, an_sn_n, an_sm, an_sv, am_sn, am_sm_e, am_sm_n, am_sv, ai_sn, ai_sm, ai_sv_e, ai_sv_n, reduceIte, or_false, false_or, or_true, true_or, or_self, and_true, true_and, and_false, false_and, not_true_eq_false, not_false_eq_true]
theorem mkA_s (a : AS) (x y : Int32) : ai (mkA a x y) 1 = upd (ai a 1) (an a 0) y := by unfold mkA; simp (disch := omega) only [gi_si_e, gi_si_n, gp_sp_e, gp_sp_n, gr_sr_e, gr_sr_n, gi_sp, gi_sr, gp_si, gp_sr, gr_si, gr_sp, upd_e, upd_n, un_e, un_n, an_sn_e, an_sn_n, an_sm, an_sv, am_sn, am_sm_e, am_sm_n, am_sv, ai_sn, ai_sm, ai_sv_e, ai_sv_n, reduceIte, or_false, false_or, or_true, true_or, or_self, and_true, true_and, and_false, false_and, not_true_eq_false, not_false_eq_true]
theorem qFs_o {a : AS} {z : Int32} (x y : Int32) (hm : an a 0 ≤ 20000) (hz : ∃ i, i < an a 0 ∧ z = nI i) : qFs (mkA a x y) z = qFs a z := by
  obtain ⟨i, hi, rfl⟩ := hz
  unfold qFs
  rw [mkA_f, nq_clamp (by omega), upd_n _ _ (by omega)]
theorem qFs_m (a : AS) (x y : Int32) (hm : an a 0 ≤ 20000) : qFs (mkA a x y) (nI (an a 0)) = x := by
  unfold qFs
  rw [mkA_f, nq_clamp (by omega), upd_e _ _ rfl]
theorem qSc_m (a : AS) (x y : Int32) (hm : an a 0 ≤ 20000) : qSc (mkA a x y) (nI (an a 0)) = y := by
  unfold qSc
  rw [mkA_s, nq_clamp (by omega), upd_e _ _ rfl]
section QK
variable {a : AS} {R : QR} {σ σ' : St}
theorem qIN.make (h : qIN a R σ) (h2 : an a 0 < 20000) (x y : Int32) : qIN (mkA a x y) R (mkS σ (an a 0) x y) := by
  refine ⟨by rw [mkA_0]; omega, ⟨?_, fun i hi => ?_, fun i hi => ?_⟩, fun r hr => ?_, h.so, fun j h1 h3 => ?_, fun r hr hf => ?_⟩
  · rw [mkA_0]; unfold mkS; simp (disch := omega) only [gi_si_e, gi_si_n, gp_sp_e, gp_sp_n, gr_sr_e, gr_sr_n, gi_sp, gi_sr, gp_si, gp_sr, gr_si, gr_sp, upd_e, upd_n, un_e, un_n, an_sn_e, an_sn_n, an_sm, an_sv, am_sn, am_sm_e, am_sm_n, am_sv, ai_sn, ai_sm, ai_sv_e, ai_sv_n, reduceIte, or_false, false_or, or_true, true_or, or_self, and_true, true_and, and_false, false_and, not_true_eq_false, not_false_eq_true]
  · rw [mkA_0] at hi
    rw [mkA_f]
    unfold mkS
    rw [gr_si, gr_sr_n _ _ (by decide), gr_sr_e _ _ rfl]
    by_cases e : i = an a 0
    · rw [upd_e _ _ e, upd_e _ _ e]
    · rw [upd_n _ _ e, upd_n _ _ e]; exact h.cd.2.1 i (by omega)
  · rw [mkA_0] at hi
    rw [mkA_s]
    unfold mkS
    rw [gr_si, gr_sr_e _ _ rfl]
    by_cases e : i = an a 0
    · rw [upd_e _ _ e, upd_e _ _ e]
    · rw [upd_n _ _ e, upd_n _ _ e]; exact h.cd.2.2 i (by omega)
  · obtain ⟨q1, q2, q3, q4⟩ := h.2.2.1 r hr
    refine ⟨q1, fun z hz => ?_, ?_, ?_⟩
    · obtain ⟨i, hi, e⟩ := q2 z hz
      exact ⟨i, by rw [mkA_0]; omega, e⟩
    · unfold mkS; rw [gi_si_n _ _ (by omega)]; exact q3
    · unfold mkS; rw [gr_si, gr_sr_n _ _ (by omega), gr_sr_n _ _ (by omega)]; exact q4
  · obtain ⟨s, q1, q2⟩ := h.2.2.2.2.1 j h1 h3
    exact ⟨s, q1, by unfold mkS; rw [gi_si_n _ _ (by omega)]; exact q2⟩
  · unfold mkS; rw [gr_si, gr_sr_n _ _ (by decide), gr_sr_n _ _ (by decide)]; exact h.2.2.2.2.2 r hr hf
theorem qIN.flag (h : qIN a R σ) {r : Nat} (hr : r < 4) : qIN a (qRs R 8 (nI r :: R 8)) (sr σ 6 (upd (gr σ 6) r 1)) := by
  refine ⟨h.1, h.cd.fr rfl (gr_sr_n _ _ (by decide)) (gr_sr_n _ _ (by decide)), fun r' hr' => ?_, h.so, h.2.2.2.2.1, fun r' hr' hf => ?_⟩
  · rw [qRs_n _ _ (by omega)]
    obtain ⟨q1, q2, q3, q4⟩ := h.2.2.1 r' hr'
    exact ⟨q1, q2, q3, by rw [gr_sr_n _ _ (by omega)]; exact q4⟩
  · rw [qRs_e _ _ rfl] at hf
    rw [gr_sr_e _ _ rfl]
    by_cases e : r' = r
    · rw [upd_e _ _ e]
    · rw [upd_n _ _ e]
      rcases List.mem_cons.mp hf with q | q
      · exact absurd ((nq_inj (by omega) (by omega)).mp q) e
      · exact h.2.2.2.2.2 r' hr' q
theorem E_keep (h : qIN a R σ) {r : Nat} (hr : r < 4) : ∃ σ', f_X10_keep (nI r) σ = some (.inr (nI (R r).length), σ') ∧ qIN a (qRs (qRs R (4 + r) (R r)) 8 (nI r :: R 8)) σ' := by
  have hn := h.len hr
  have hk := h.len8 (r := 4 + r) (by omega)
  have e20 : 16 + (4 + r) = 20 + r := by omega
  have z1 := (h.cr8 (r := 4 + r) (by omega)).1
  rw [e20] at z1
  have b := become_eq (j := 20 + r) (i2 := 16 + r) z1 (h.sz hr) hk hn
  have q1 := h.wr8 (r := 4 + r) (L := R r) (F := va_cpy (gr σ (16 + r + 16)) (gr σ (20 + r + 16)) 0 0 (R r).length) (by omega) hn (h.vl hr) (cpy_seg (h.sg hr))
  rw [e20] at q1
  obtain ⟨σ1, hσ1⟩ : ∃ σ1, σ1 = si (sr σ (20 + r + 16) (va_cpy (gr σ (16 + r + 16)) (gr σ (20 + r + 16)) 0 0 (R r).length)) (8 * (20 + r) + 1) (nI (R r).length) := ⟨_, rfl⟩
  rw [← hσ1] at b q1
  have z2 := q1.sz hr
  rw [qRs_n _ _ (by omega)] at z2
  have q2 := q1.flag hr
  rw [qRs_n R _ (show (8 : Nat) ≠ 4 + r by omega)] at q2
  refine ⟨sr σ1 6 (upd (gr σ1 6) r 1), ?_, q2⟩
  unfold f_X10_keep
  rw [rowAt_ok hr, bndX_r]
  simp (disch := omega) only [↓bnd_s, ↓bnd2_s, ↓bnd3_s, ↓bnd4_s, ↓bnd5_s, ↓bndR_l, ↓bndR_r, ↓bndX_l, ↓bndX_r, ↓bndQ_s, ↓bndQ2_s, bndQ_s, bndQ2_s, bnd_s, bnd2_s, bnd3_s, bnd4_s, bnd5_s, bndR_l, bndR_r, bndX_l, bndX_r, nq_lt, nq_le, nq_inj, nq_add, nq_mul, nq_sub, nq_div, nq_neg1, nq_clamp, nq_ne1, nq_le1, ne1_lt, n1_lt0, n1_lt, n1_ne, nz0, nz1, nz2, nz3, nz4, nz5, nz6, nz8, nz10, nz31, nz32, nz50, nz400, nz800, nz3200, nz20000, nlt_f, nlt_t, nle_f, nle_t, neq_f, neq_t, gi_si_e, gi_si_n, gp_sp_e, gp_sp_n, gr_sr_e, gr_sr_n, gi_sp, gi_sr, gp_si, gp_sr, gr_si, gr_sp, upd_e, upd_n, un_e, un_n, an_sn_e, an_sn_n, an_sm, an_sv, am_sn, am_sm_e, am_sm_n, am_sv, ai_sn, ai_sm, ai_sv_e, ai_sv_n, reduceIte, or_false, false_or, or_true, true_or, or_self, and_true, true_and, and_false, false_and, not_true_eq_false, not_false_eq_true, b, nar1, z2]
theorem E_restore (h : qIN a R σ) {r : Nat} (hr : r < 4) (hf : nI r ∈ R 8) (hl : (R (4 + r)).length = (R r).length) : ∃ σ', f_X10_restore (nI r) σ = some (.inr (nI (dif (gL (R r)) (gL (R (4 + r))) (R r).length)), σ') ∧ qIN a (qRs R r (R (4 + r))) σ' := by
  have hn := h.len hr
  have e20 : 16 + (4 + r) = 20 + r := by omega
  have z1 := h.cr8 (r := 4 + r) (by omega)
  rw [e20] at z1
  have b := become_eq (j := 16 + r) (i2 := 20 + r) (h.sz hr) z1.1 hn (by omega)
  rw [hl, Nat.max_self, Nat.min_self, Nat.sub_self, Nat.zero_add] at b
  have z3 := z1.2
  rw [hl] at z3
  have hd : dif (gr σ (16 + r + 16)) (gr σ (20 + r + 16)) (R r).length = dif (gL (R r)) (gL (R (4 + r))) (R r).length := dif_congr (fun k hk => by
    unfold gL
    rw [h.at hr hk]; rfl) (fun k hk => by
    unfold gL
    rw [seg_of z1.2 (by omega)]; rfl)
  rw [hd] at b
  have q1 := h.wr8 (r := r) (L := R (4 + r)) (F := va_cpy (gr σ (20 + r + 16)) (gr σ (16 + r + 16)) 0 0 (R (4 + r)).length) (by omega) (by omega) (h.vl8 (by omega)) (cpy_seg z1.2)
  rw [hl] at q1
  have fl := h.2.2.2.2.2 r hr hf
  refine ⟨_, ?_, q1⟩
  unfold f_X10_restore
  rw [rowAt_ok hr, bndX_r]
  simp (disch := omega) only [↓bnd_s, ↓bnd2_s, ↓bnd3_s, ↓bnd4_s, ↓bnd5_s, ↓bndR_l, ↓bndR_r, ↓bndX_l, ↓bndX_r, ↓bndQ_s, ↓bndQ2_s, bndQ_s, bndQ2_s, bnd_s, bnd2_s, bnd3_s, bnd4_s, bnd5_s, bndR_l, bndR_r, bndX_l, bndX_r, nq_lt, nq_le, nq_inj, nq_add, nq_mul, nq_sub, nq_div, nq_neg1, nq_clamp, nq_ne1, nq_le1, ne1_lt, n1_lt0, n1_lt, n1_ne, nz0, nz1, nz2, nz3, nz4, nz5, nz6, nz8, nz10, nz31, nz32, nz50, nz400, nz800, nz3200, nz20000, nlt_f, nlt_t, nle_f, nle_t, neq_f, neq_t, gi_si_e, gi_si_n, gp_sp_e, gp_sp_n, gr_sr_e, gr_sr_n, gi_sp, gi_sr, gp_si, gp_sr, gr_si, gr_sp, upd_e, upd_n, un_e, un_n, an_sn_e, an_sn_n, an_sm, an_sv, am_sn, am_sm_e, am_sm_n, am_sv, ai_sn, ai_sm, ai_sv_e, ai_sv_n, reduceIte, or_false, false_or, or_true, true_or, or_self, and_true, true_and, and_false, false_and, not_true_eq_false, not_false_eq_true, fl, b]
theorem E_put (h : qIN a R σ) {r : Nat} (hr : r < 4) {p : Nat} (hp : p ≤ (R r).length) (h8 : (R r).length < 800) (h2 : an a 0 < 20000) (x y : Int32) :
    ∃ σ', f_X10_put (nI r) (nI p) x y σ = some (.inr (nI (an a 0)), σ') ∧ qIN (mkA a x y) (qRs R r ((R r).take p ++ nI (an a 0) :: (R r).drop p)) σ' := by
  have e1 := needRoom_eq (n := 1) (h.sz hr) (by omega) (by omega)
  have e2 := needCards_eq (n := 1) h.cd.1 (by omega) (by omega)
  rw [if_pos (by omega)] at e1 e2
  have e3 := make_eq h.cd.1 h2 x y
  have q1 := h.make h2 x y
  unfold mkS at q1
  obtain ⟨σ1, hσ1⟩ : ∃ σ1, σ1 = si (sr (sr σ 2 (upd (gr σ 2) (an a 0) x)) 3 (upd (gr σ 3) (an a 0) y)) 10 (nI (an a 0 + 1)) := ⟨_, rfl⟩
  rw [← hσ1] at e3 q1
  have e4 := insert_eq (v := nI (an a 0)) (q1.sz hr) h8 hp
  have q2 := q1.wr hr (L := (R r).take p ++ nI (an a 0) :: (R r).drop p) (by rw [ins_len hp]; omega) (fun z hz => by
    rcases List.mem_append.mp hz with hz | hz
    · exact q1.vl hr z (List.mem_of_mem_take hz)
    · rcases List.mem_cons.mp hz with hz | hz
      · exact ⟨an a 0, by rw [mkA_0]; omega, hz⟩
      · exact q1.vl hr z (List.mem_of_mem_drop hz)) (ins_seg (q1.sg hr) hp (nI (an a 0)))
  rw [ins_len hp] at q2
  refine ⟨_, ?_, q2⟩
  unfold f_X10_put
  rw [rowAt_ok hr, bndX_r]
  simp (disch := omega) only [↓bnd_s, ↓bnd2_s, ↓bnd3_s, ↓bnd4_s, ↓bnd5_s, ↓bndR_l, ↓bndR_r, ↓bndX_l, ↓bndX_r, ↓bndQ_s, ↓bndQ2_s, bndQ_s, bndQ2_s, bnd_s, bnd2_s, bnd3_s, bnd4_s, bnd5_s, bndR_l, bndR_r, bndX_l, bndX_r, nq_lt, nq_le, nq_inj, nq_add, nq_mul, nq_sub, nq_div, nq_neg1, nq_clamp, nq_ne1, nq_le1, ne1_lt, n1_lt0, n1_lt, n1_ne, nz0, nz1, nz2, nz3, nz4, nz5, nz6, nz8, nz10, nz31, nz32, nz50, nz400, nz800, nz3200, nz20000, nlt_f, nlt_t, nle_f, nle_t, neq_f, neq_t, gi_si_e, gi_si_n, gp_sp_e, gp_sp_n, gr_sr_e, gr_sr_n, gi_sp, gi_sr, gp_si, gp_sr, gr_si, gr_sp, upd_e, upd_n, un_e, un_n, an_sn_e, an_sn_n, an_sm, an_sv, am_sn, am_sm_e, am_sm_n, am_sv, ai_sn, ai_sm, ai_sv_e, ai_sv_n, reduceIte, or_false, false_or, or_true, true_or, or_self, and_true, true_and, and_false, false_and, not_true_eq_false, not_false_eq_true, h.sz hr, e1, e2, e3, e4]
theorem E_put_no (h : qIN a R σ) {r : Nat} (hr : r < 4) {p : Nat} (hp : p ≤ (R r).length) (h8 : (R r).length = 800) (x y : Int32) : f_X10_put (nI r) (nI p) x y σ = some (.inl zS, σ) := by
  have e1 := needRoom_eq (n := 1) (h.sz hr) (by omega) (by omega)
  rw [if_neg (by omega)] at e1
  unfold f_X10_put
  rw [rowAt_ok hr, bndX_r]
  simp (disch := omega) only [↓bnd_s, ↓bnd2_s, ↓bnd3_s, ↓bnd4_s, ↓bnd5_s, ↓bndR_l, ↓bndR_r, ↓bndX_l, ↓bndX_r, ↓bndQ_s, ↓bndQ2_s, bndQ_s, bndQ2_s, bnd_s, bnd2_s, bnd3_s, bnd4_s, bnd5_s, bndR_l, bndR_r, bndX_l, bndX_r, nq_lt, nq_le, nq_inj, nq_add, nq_mul, nq_sub, nq_div, nq_neg1, nq_clamp, nq_ne1, nq_le1, ne1_lt, n1_lt0, n1_lt, n1_ne, nz0, nz1, nz2, nz3, nz4, nz5, nz6, nz8, nz10, nz31, nz32, nz50, nz400, nz800, nz3200, nz20000, nlt_f, nlt_t, nle_f, nle_t, neq_f, neq_t, gi_si_e, gi_si_n, gp_sp_e, gp_sp_n, gr_sr_e, gr_sr_n, gi_sp, gi_sr, gp_si, gp_sr, gr_si, gr_sp, upd_e, upd_n, un_e, un_n, an_sn_e, an_sn_n, an_sm, an_sv, am_sn, am_sm_e, am_sm_n, am_sv, ai_sn, ai_sm, ai_sv_e, ai_sv_n, reduceIte, or_false, false_or, or_true, true_or, or_self, and_true, true_and, and_false, false_and, not_true_eq_false, not_false_eq_true, h.sz hr, e1]
theorem pl_C (h : qIN a R σ) {r : Nat} (hr : r < 4) {p : Nat} {x : Int32} (hp : (R r)[p]? = some x) (hne : ∀ k, k < p → (R r)[k]? ≠ some x) : ∀ (d : Nat) {fu i : Nat}, p - i = d → d < fu → i ≤ p → f_X10_placeOf_L9 x (16 + r) σ fu (nI i) = some (.inl (.inr (nI p))) := by
  have hn := h.len hr
  obtain ⟨hk, e⟩ := h.gt hr hp
  intro d
  induction d with
  | zero =>
    intro fu i hd hf hi
    obtain ⟨fu, rfl⟩ : ∃ f, fu = f + 1 := ⟨fu - 1, by omega⟩
    have ei : i = p := by omega
    subst ei
    unfold f_X10_placeOf_L9; simp (disch := omega) only [↓bnd_s, ↓bnd2_s, ↓bnd3_s, ↓bnd4_s, ↓bnd5_s, ↓bndR_l, ↓bndR_r, ↓bndX_l, ↓bndX_r, ↓bndQ_s, ↓bndQ2_s, bndQ_s, bndQ2_s, bnd_s, bnd2_s, bnd3_s, bnd4_s, bnd5_s, bndR_l, bndR_r, bndX_l, bndX_r, nq_lt, nq_le, nq_inj, nq_add, nq_mul, nq_sub, nq_div, nq_neg1, nq_clamp, nq_ne1, nq_le1, ne1_lt, n1_lt0, n1_lt, n1_ne, nz0, nz1, nz2, nz3, nz4, nz5, nz6, nz8, nz10, nz31, nz32, nz50, nz400, nz800, nz3200, nz20000, nlt_f, nlt_t, nle_f, nle_t, neq_f, neq_t, gi_si_e, gi_si_n, gp_sp_e, gp_sp_n, gr_sr_e, gr_sr_n, gi_sp, gi_sr, gp_si, gp_sr, gr_si, gr_sp, upd_e, upd_n, un_e, un_n, an_sn_e, an_sn_n, an_sm, an_sv, am_sn, am_sm_e, am_sm_n, am_sv, ai_sn, ai_sm, ai_sv_e, ai_sv_n, reduceIte, or_false, false_or, or_true, true_or, or_self, and_true, true_and, and_false, false_and, not_true_eq_false, not_false_eq_true, h.sz hr, e]
  | succ d ih =>
    intro fu i hd hf hi
    obtain ⟨fu, rfl⟩ : ∃ f, fu = f + 1 := ⟨fu - 1, by omega⟩
    have ne : ¬ gr σ (16 + r + 16) i = x := fun q => hne i (by omega) (by rw [h.at hr (by omega), q])
    have := ih (fu := fu) (i := i + 1) (by omega) (by omega) (by omega)
    unfold f_X10_placeOf_L9; simp (disch := omega) only [↓bnd_s, ↓bnd2_s, ↓bnd3_s, ↓bnd4_s, ↓bnd5_s, ↓bndR_l, ↓bndR_r, ↓bndX_l, ↓bndX_r, ↓bndQ_s, ↓bndQ2_s, bndQ_s, bndQ2_s, bnd_s, bnd2_s, bnd3_s, bnd4_s, bnd5_s, bndR_l, bndR_r, bndX_l, bndX_r, nq_lt, nq_le, nq_inj, nq_add, nq_mul, nq_sub, nq_div, nq_neg1, nq_clamp, nq_ne1, nq_le1, ne1_lt, n1_lt0, n1_lt, n1_ne, nz0, nz1, nz2, nz3, nz4, nz5, nz6, nz8, nz10, nz31, nz32, nz50, nz400, nz800, nz3200, nz20000, nlt_f, nlt_t, nle_f, nle_t, neq_f, neq_t, gi_si_e, gi_si_n, gp_sp_e, gp_sp_n, gr_sr_e, gr_sr_n, gi_sp, gi_sr, gp_si, gp_sr, gr_si, gr_sp, upd_e, upd_n, un_e, un_n, an_sn_e, an_sn_n, an_sm, an_sv, am_sn, am_sm_e, am_sm_n, am_sv, ai_sn, ai_sm, ai_sv_e, ai_sv_n, reduceIte, or_false, false_or, or_true, true_or, or_self, and_true, true_and, and_false, false_and, not_true_eq_false, not_false_eq_true, h.sz hr, ne]; exact this
theorem E_placeOf (h : qIN a R σ) {r : Nat} (hr : r < 4) {p : Nat} {x : Int32} (hp : (R r)[p]? = some x) (hne : ∀ k, k < p → (R r)[k]? ≠ some x) : f_X10_placeOf (nI r) x σ = some (.inr (nI p)) := by
  have hn := h.len hr
  have hk := (h.gt hr hp).1
  have t := pl_C h hr hp hne _ (fu := FU) (i := 0) rfl (by unfold FU; omega) (Nat.zero_le _)
  unfold f_X10_placeOf
  rw [rowAt_ok hr, bndX_r, nz0, t]; rfl
end QK
