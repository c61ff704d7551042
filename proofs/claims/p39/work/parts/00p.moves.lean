/-! rows poured, dealt, turned, moved in, thinned out -/
def sgl (a : AS) : Int32 → List Int32 → List Int32
  | _, [] => []
  | g, x :: l => if qFs a x = g then sgl a g l else x :: sgl a (qFs a x) l
def sng (a : AS) : List Int32 → List Int32
  | [] => []
  | x :: l => x :: sgl a (qFs a x) l
def thn (a : AS) (s : Int32) (L : List Int32) : List Int32 := L.filter (fun x => decide (¬ qSc a x = s))
theorem thn_cons (a : AS) (s x : Int32) (L : List Int32) : thn a s (x :: L) = if qSc a x = s then thn a s L else x :: thn a s L := by
  unfold thn
  rw [List.filter_cons]
  by_cases h : qSc a x = s
  · rw [if_pos h, if_neg (by simp [h])]
  · rw [if_neg h, if_pos (by simp [h])]
theorem thn_len (a : AS) (s : Int32) (L : List Int32) : (thn a s L).length ≤ L.length := List.length_filter_le ..
theorem sgl_len (a : AS) : ∀ (L : List Int32) (g : Int32), (sgl a g L).length ≤ L.length
  | [], _ => Nat.le_refl _
  | x :: l, g => by
    unfold sgl
    by_cases h : qFs a x = g
    · rw [if_pos h, List.length_cons]; have := sgl_len a l g; omega
    · rw [if_neg h, List.length_cons, List.length_cons]; have := sgl_len a l (qFs a x); omega
theorem sng_len (a : AS) (L : List Int32) : (sng a L).length ≤ L.length := by
  cases L with
  | nil => exact Nat.le_refl _
  | cons x l => unfold sng; rw [List.length_cons, List.length_cons]; have := sgl_len a l (qFs a x); omega
theorem sgl_mem {a : AS} {y : Int32} : ∀ {L : List Int32} {g : Int32}, y ∈ sgl a g L → y ∈ L
  | x :: l, g, h => by
    unfold sgl at h
    by_cases e : qFs a x = g
    · rw [if_pos e] at h; exact List.mem_cons_of_mem _ (sgl_mem h)
    · rw [if_neg e] at h
      rcases List.mem_cons.mp h with rfl | h
      · exact List.mem_cons_self
      · exact List.mem_cons_of_mem _ (sgl_mem h)
theorem sng_mem {a : AS} {y : Int32} {L : List Int32} (h : y ∈ sng a L) : y ∈ L := by
  cases L with
  | nil => exact h
  | cons x l =>
    unfold sng at h
    rcases List.mem_cons.mp h with rfl | h
    · exact List.mem_cons_self
    · exact List.mem_cons_of_mem _ (sgl_mem h)
section QM
variable {a : AS} {R : QR} {σ σ' : St}
theorem thin_C {r n : Nat} (hm : an a 0 ≤ 20000) (hn : n ≤ 800) (hr : r < 4) (s : Int32) : ∀ (d : Nat) {fu i j : Nat} {σ : St}, CD a σ → (∀ q, i ≤ q → q < n → ∃ z, z < an a 0 ∧ gr σ (16 + r + 16) q = nI z) → n - i = d → d < fu → j ≤ i → i ≤ n →
    f_X10_thin_L18 s (16 + r) (nI n) fu (nI j) (nI i) σ = some (nI (j + (thn a s (seg (gr σ (16 + r + 16)) i d)).length), sr σ (16 + r + 16) (wr (gr σ (16 + r + 16)) j (thn a s (seg (gr σ (16 + r + 16)) i d)))) := by
  intro d
  induction d with
  | zero =>
    intro fu i j σ hC hv hd hf hj hi
    obtain ⟨fu, rfl⟩ : ∃ f, fu = f + 1 := ⟨fu - 1, by omega⟩
    rw [seg_0, show thn a s [] = [] from rfl, List.length_nil, Nat.add_zero j, wr_nil, sr_id]
    unfold f_X10_thin_L18; simp (disch := omega) only [↓bnd_s, ↓bnd2_s, ↓bnd3_s, ↓bnd4_s, ↓bnd5_s, ↓bndR_l, ↓bndR_r, ↓bndX_l, ↓bndX_r, ↓bndQ_s, ↓bndQ2_s, bndQ_s, bndQ2_s, bnd_s, bnd2_s, bnd3_s, bnd4_s, bnd5_s, bndR_l, bndR_r, bndX_l, bndX_r, nq_lt, nq_le, nq_inj, nq_add, nq_mul, nq_sub, nq_div, nq_neg1, nq_clamp, nq_ne1, nq_le1, ne1_lt, n1_lt0, n1_lt, n1_ne, nz0, nz1, nz2, nz3, nz4, nz5, nz6, nz8, nz10, nz31, nz32, nz50, nz400, nz800, nz3200, nz20000, nlt_f, nlt_t, nle_f, nle_t, neq_f, neq_t, gi_si_e, gi_si_n, gp_sp_e, gp_sp_n, gr_sr_e, gr_sr_n, gi_sp, gi_sr, gp_si, gp_sr, gr_si, gr_sp, upd_e, upd_n, un_e, un_n, an_sn_e, an_sn_n, an_sm, an_sv, am_sn, am_sm_e, am_sm_n, am_sv, ai_sn, ai_sm, ai_sv_e, ai_sv_n, reduceIte, or_false, false_or, or_true, true_or, or_self, and_true, true_and, and_false, false_and, not_true_eq_false, not_false_eq_true]
  | succ d ih =>
    intro fu i j σ hC hv hd hf hj hi
    obtain ⟨fu, rfl⟩ : ∃ f, fu = f + 1 := ⟨fu - 1, by omega⟩
    have h2 := f2_eq hC hm (hv i (Nat.le_refl _) (by omega))
    rw [seg_s, thn_cons]
    by_cases hs : qSc a (gr σ (16 + r + 16) i) = s
    · rw [if_pos hs]
      have := ih (fu := fu) (i := i + 1) (j := j) hC (fun q h1 h2 => hv q (by omega) h2) (by omega) (by omega) (by omega) (by omega)
      unfold f_X10_thin_L18; simp (disch := omega) only [↓bnd_s, ↓bnd2_s, ↓bnd3_s, ↓bnd4_s, ↓bnd5_s, ↓bndR_l, ↓bndR_r, ↓bndX_l, ↓bndX_r, ↓bndQ_s, ↓bndQ2_s, bndQ_s, bndQ2_s, bnd_s, bnd2_s, bnd3_s, bnd4_s, bnd5_s, bndR_l, bndR_r, bndX_l, bndX_r, nq_lt, nq_le, nq_inj, nq_add, nq_mul, nq_sub, nq_div, nq_neg1, nq_clamp, nq_ne1, nq_le1, ne1_lt, n1_lt0, n1_lt, n1_ne, nz0, nz1, nz2, nz3, nz4, nz5, nz6, nz8, nz10, nz31, nz32, nz50, nz400, nz800, nz3200, nz20000, nlt_f, nlt_t, nle_f, nle_t, neq_f, neq_t, gi_si_e, gi_si_n, gp_sp_e, gp_sp_n, gr_sr_e, gr_sr_n, gi_sp, gi_sr, gp_si, gp_sr, gr_si, gr_sp, upd_e, upd_n, un_e, un_n, an_sn_e, an_sn_n, an_sm, an_sv, am_sn, am_sm_e, am_sm_n, am_sv, ai_sn, ai_sm, ai_sv_e, ai_sv_n, reduceIte, or_false, false_or, or_true, true_or, or_self, and_true, true_and, and_false, false_and, not_true_eq_false, not_false_eq_true, h2, hs]; exact this
    · rw [if_neg hs]
      have e : seg (upd (gr σ (16 + r + 16)) j (gr σ (16 + r + 16) i)) (i + 1) d = seg (gr σ (16 + r + 16)) (i + 1) d := seg_congr fun k _ => upd_n _ _ (by omega)
      have := ih (fu := fu) (i := i + 1) (j := j + 1) (σ := sr σ (16 + r + 16) (upd (gr σ (16 + r + 16)) j (gr σ (16 + r + 16) i))) (hC.fr (by simp (disch := omega) only [gi_si_e, gi_si_n, gp_sp_e, gp_sp_n, gr_sr_e, gr_sr_n, gi_sp, gi_sr, gp_si, gp_sr, gr_si, gr_sp, upd_e, upd_n, un_e, un_n, an_sn_e, an_sn_n, an_sm, an_sv, am_sn, am_sm_e, am_sm_n, am_sv, ai_sn, ai_sm, ai_sv_e, ai_sv_n, reduceIte, or_false, false_or, or_true, true_or, or_self, and_true, true_and, and_false, false_and, not_true_eq_false, not_false_eq_true]) (by simp (disch := omega) only [gi_si_e, gi_si_n, gp_sp_e, gp_sp_n, gr_sr_e, gr_sr_n, gi_sp, gi_sr, gp_si, gp_sr, gr_si, gr_sp, upd_e, upd_n, un_e, un_n, an_sn_e, an_sn_n, an_sm, an_sv, am_sn, am_sm_e, am_sm_n, am_sv, ai_sn, ai_sm, ai_sv_e, ai_sv_n, reduceIte, or_false, false_or, or_true, true_or, or_self, and_true, true_and, and_false, false_and, not_true_eq_false, not_false_eq_true]) (by simp (disch := omega) only [gi_si_e, gi_si_n, gp_sp_e, gp_sp_n, gr_sr_e, gr_sr_n, gi_sp, gi_sr, gp_si, gp_sr, gr_si, gr_sp, upd_e, upd_n, un_e, un_n, an_sn_e, an_sn_n, an_sm, an_sv, am_sn, am_sm_e, am_sm_n, am_sv, ai_sn, ai_sm, ai_sv_e, ai_sv_n, reduceIte, or_false, false_or, or_true, true_or, or_self, and_true, true_and, and_false, false_and, not_true_eq_false, not_false_eq_true])) (fun q h1 h2 => by rw [gr_sr_e _ _ rfl, upd_n _ _ (by omega)]; exact hv q (by omega) h2) (by omega) (by omega) (by omega) (by omega)
      rw [gr_sr_e _ _ rfl, e, wr_cons, sr_sr] at this
      rw [List.length_cons, show ∀ z : Nat, j + (z + 1) = j + 1 + z from fun z => by omega]
      unfold f_X10_thin_L18; simp (disch := omega) only [↓bnd_s, ↓bnd2_s, ↓bnd3_s, ↓bnd4_s, ↓bnd5_s, ↓bndR_l, ↓bndR_r, ↓bndX_l, ↓bndX_r, ↓bndQ_s, ↓bndQ2_s, bndQ_s, bndQ2_s, bnd_s, bnd2_s, bnd3_s, bnd4_s, bnd5_s, bndR_l, bndR_r, bndX_l, bndX_r, nq_lt, nq_le, nq_inj, nq_add, nq_mul, nq_sub, nq_div, nq_neg1, nq_clamp, nq_ne1, nq_le1, ne1_lt, n1_lt0, n1_lt, n1_ne, nz0, nz1, nz2, nz3, nz4, nz5, nz6, nz8, nz10, nz31, nz32, nz50, nz400, nz800, nz3200, nz20000, nlt_f, nlt_t, nle_f, nle_t, neq_f, neq_t, gi_si_e, gi_si_n, gp_sp_e, gp_sp_n, gr_sr_e, gr_sr_n, gi_sp, gi_sr, gp_si, gp_sr, gr_si, gr_sp, upd_e, upd_n, un_e, un_n, an_sn_e, an_sn_n, an_sm, an_sv, am_sn, am_sm_e, am_sm_n, am_sv, ai_sn, ai_sm, ai_sv_e, ai_sv_n, reduceIte, or_false, false_or, or_true, true_or, or_self, and_true, true_and, and_false, false_and, not_true_eq_false, not_false_eq_true, h2, hs]; exact this
theorem E_thin (h : qIN a R σ) {r : Nat} (hr : r < 4) (s : Int32) : ∃ σ', f_X10_thin (nI r) s σ = some (.inr (nI ((R r).length - (thn a s (R r)).length)), σ') ∧ qIN a (qRs R r (thn a s (R r))) σ' := by
  have hn := h.len hr
  have hl := thn_len a s (R r)
  have t := thin_C h.m hn hr s (R r).length (fu := FU) (i := 0) (j := 0) h.cd (fun q _ hq => h.mk hr hq) (by omega) (by unfold FU; omega) (by omega) (by omega)
  rw [h.sg hr, Nat.zero_add] at t
  refine ⟨_, ?_, h.wr hr (F := wr (gr σ (16 + r + 16)) 0 (thn a s (R r))) (by omega) (fun x hx => h.vl hr x ((List.mem_filter.mp hx).1)) (seg_wr _ _ _)⟩
  unfold f_X10_thin
  rw [rowAt_ok hr, bndX_r, h.sz hr, nz0, t, bnd2_s, nq_sub hl]
theorem single_C {r n : Nat} (hm : an a 0 ≤ 20000) (hn : n ≤ 800) (hr : r < 4) : ∀ (d : Nat) {fu i j : Nat} {g : Int32} {σ : St}, CD a σ → (∀ q, q < n → ∃ z, z < an a 0 ∧ gr σ (16 + r + 16) q = nI z) → n - i = d → d < fu → j + 1 ≤ i → i ≤ n → qFs a (gr σ (16 + r + 16) j) = g →
    f_X10_single_L17 (16 + r) (nI n) fu (nI (j + 1)) (nI i) σ = some (nI (j + 1 + (sgl a g (seg (gr σ (16 + r + 16)) i d)).length), sr σ (16 + r + 16) (wr (gr σ (16 + r + 16)) (j + 1) (sgl a g (seg (gr σ (16 + r + 16)) i d)))) := by
  intro d
  induction d with
  | zero =>
    intro fu i j g σ hC hv hd hf hj hi hg
    obtain ⟨fu, rfl⟩ : ∃ f, fu = f + 1 := ⟨fu - 1, by omega⟩
    rw [seg_0, show sgl a g [] = [] from by rw [sgl], List.length_nil, Nat.add_zero, wr_nil, sr_id]
    unfold f_X10_single_L17; simp (disch := omega) only [↓bnd_s, ↓bnd2_s, ↓bnd3_s, ↓bnd4_s, ↓bnd5_s, ↓bndR_l, ↓bndR_r, ↓bndX_l, ↓bndX_r, ↓bndQ_s, ↓bndQ2_s, bndQ_s, bndQ2_s, bnd_s, bnd2_s, bnd3_s, bnd4_s, bnd5_s, bndR_l, bndR_r, bndX_l, bndX_r, nq_lt, nq_le, nq_inj, nq_add, nq_mul, nq_sub, nq_div, nq_neg1, nq_clamp, nq_ne1, nq_le1, ne1_lt, n1_lt0, n1_lt, n1_ne, nz0, nz1, nz2, nz3, nz4, nz5, nz6, nz8, nz10, nz31, nz32, nz50, nz400, nz800, nz3200, nz20000, nlt_f, nlt_t, nle_f, nle_t, neq_f, neq_t, gi_si_e, gi_si_n, gp_sp_e, gp_sp_n, gr_sr_e, gr_sr_n, gi_sp, gi_sr, gp_si, gp_sr, gr_si, gr_sp, upd_e, upd_n, un_e, un_n, an_sn_e, an_sn_n, an_sm, an_sv, am_sn, am_sm_e, am_sm_n, am_sv, ai_sn, ai_sm, ai_sv_e, ai_sv_n, reduceIte, or_false, false_or, or_true, true_or, or_self, and_true, true_and, and_false, false_and, not_true_eq_false, not_false_eq_true]
  | succ d ih =>
    intro fu i j g σ hC hv hd hf hj hi hg
    obtain ⟨fu, rfl⟩ : ∃ f, fu = f + 1 := ⟨fu - 1, by omega⟩
    have h1 := f1_eq hC hm (hv i (by omega))
    have h2 := f1_eq hC hm (hv j (by omega))
    rw [hg] at h2
    rw [seg_s, sgl]
    by_cases hs : qFs a (gr σ (16 + r + 16) i) = g
    · rw [if_pos hs]
      have := ih (fu := fu) (i := i + 1) (j := j) hC hv (by omega) (by omega) (by omega) (by omega) hg
      unfold f_X10_single_L17; simp (disch := omega) only [↓bnd_s, ↓bnd2_s, ↓bnd3_s, ↓bnd4_s, ↓bnd5_s, ↓bndR_l, ↓bndR_r, ↓bndX_l, ↓bndX_r, ↓bndQ_s, ↓bndQ2_s, bndQ_s, bndQ2_s, bnd_s, bnd2_s, bnd3_s, bnd4_s, bnd5_s, bndR_l, bndR_r, bndX_l, bndX_r, nq_lt, nq_le, nq_inj, nq_add, nq_mul, nq_sub, nq_div, nq_neg1, nq_clamp, nq_ne1, nq_le1, ne1_lt, n1_lt0, n1_lt, n1_ne, nz0, nz1, nz2, nz3, nz4, nz5, nz6, nz8, nz10, nz31, nz32, nz50, nz400, nz800, nz3200, nz20000, nlt_f, nlt_t, nle_f, nle_t, neq_f, neq_t, gi_si_e, gi_si_n, gp_sp_e, gp_sp_n, gr_sr_e, gr_sr_n, gi_sp, gi_sr, gp_si, gp_sr, gr_si, gr_sp, upd_e, upd_n, un_e, un_n, an_sn_e, an_sn_n, an_sm, an_sv, am_sn, am_sm_e, am_sm_n, am_sv, ai_sn, ai_sm, ai_sv_e, ai_sv_n, reduceIte, or_false, false_or, or_true, true_or, or_self, and_true, true_and, and_false, false_and, not_true_eq_false, not_false_eq_true, Nat.add_sub_cancel, h1, h2, hs]; exact this
    · rw [if_neg hs]
      have e : seg (upd (gr σ (16 + r + 16)) (j + 1) (gr σ (16 + r + 16) i)) (i + 1) d = seg (gr σ (16 + r + 16)) (i + 1) d := seg_congr fun k _ => upd_n _ _ (by omega)
      have := ih (fu := fu) (i := i + 1) (j := j + 1) (g := qFs a (gr σ (16 + r + 16) i)) (σ := sr σ (16 + r + 16) (upd (gr σ (16 + r + 16)) (j + 1) (gr σ (16 + r + 16) i))) (hC.fr (by simp (disch := omega) only [gi_si_e, gi_si_n, gp_sp_e, gp_sp_n, gr_sr_e, gr_sr_n, gi_sp, gi_sr, gp_si, gp_sr, gr_si, gr_sp, upd_e, upd_n, un_e, un_n, an_sn_e, an_sn_n, an_sm, an_sv, am_sn, am_sm_e, am_sm_n, am_sv, ai_sn, ai_sm, ai_sv_e, ai_sv_n, reduceIte, or_false, false_or, or_true, true_or, or_self, and_true, true_and, and_false, false_and, not_true_eq_false, not_false_eq_true]) (by simp (disch := omega) only [gi_si_e, gi_si_n, gp_sp_e, gp_sp_n, gr_sr_e, gr_sr_n, gi_sp, gi_sr, gp_si, gp_sr, gr_si, gr_sp, upd_e, upd_n, un_e, un_n, an_sn_e, an_sn_n, an_sm, an_sv, am_sn, am_sm_e, am_sm_n, am_sv, ai_sn, ai_sm, ai_sv_e, ai_sv_n, reduceIte, or_false, false_or, or_true, true_or, or_self, and_true, true_and, and_false, false_and, not_true_eq_false, not_false_eq_true]) (by simp (disch := omega) only [gi_si_e, gi_si_n, gp_sp_e, gp_sp_n, gr_sr_e, gr_sr_n, gi_sp, gi_sr, gp_si, gp_sr, gr_si, gr_sp, upd_e, upd_n, un_e, un_n, an_sn_e, an_sn_n, an_sm, an_sv, am_sn, am_sm_e, am_sm_n, am_sv, ai_sn, ai_sm, ai_sv_e, ai_sv_n, reduceIte, or_false, false_or, or_true, true_or, or_self, and_true, true_and, and_false, false_and, not_true_eq_false, not_false_eq_true])) (fun q hq => by
        rw [gr_sr_e _ _ rfl]
        by_cases eq : q = j + 1
        · rw [upd_e _ _ eq]; exact hv i (by omega)
        · rw [upd_n _ _ eq]; exact hv q hq) (by omega) (by omega) (by omega) (by omega) (by rw [gr_sr_e _ _ rfl, upd_e _ _ rfl])
      rw [gr_sr_e _ _ rfl, e, wr_cons, sr_sr] at this
      rw [List.length_cons, show ∀ z : Nat, j + 1 + (z + 1) = j + 1 + 1 + z from fun z => by omega]
      unfold f_X10_single_L17; simp (disch := omega) only [↓bnd_s, ↓bnd2_s, ↓bnd3_s, ↓bnd4_s, ↓bnd5_s, ↓bndR_l, ↓bndR_r, ↓bndX_l, ↓bndX_r, ↓bndQ_s, ↓bndQ2_s, bndQ_s, bndQ2_s, bnd_s, bnd2_s, bnd3_s, bnd4_s, bnd5_s, bndR_l, bndR_r, bndX_l, bndX_r, nq_lt, nq_le, nq_inj, nq_add, nq_mul, nq_sub, nq_div, nq_neg1, nq_clamp, nq_ne1, nq_le1, ne1_lt, n1_lt0, n1_lt, n1_ne, nz0, nz1, nz2, nz3, nz4, nz5, nz6, nz8, nz10, nz31, nz32, nz50, nz400, nz800, nz3200, nz20000, nlt_f, nlt_t, nle_f, nle_t, neq_f, neq_t, gi_si_e, gi_si_n, gp_sp_e, gp_sp_n, gr_sr_e, gr_sr_n, gi_sp, gi_sr, gp_si, gp_sr, gr_si, gr_sp, upd_e, upd_n, un_e, un_n, an_sn_e, an_sn_n, an_sm, an_sv, am_sn, am_sm_e, am_sm_n, am_sv, ai_sn, ai_sm, ai_sv_e, ai_sv_n, reduceIte, or_false, false_or, or_true, true_or, or_self, and_true, true_and, and_false, false_and, not_true_eq_false, not_false_eq_true, Nat.add_sub_cancel, h1, h2, hs]; exact this
theorem E_single (h : qIN a R σ) {r : Nat} (hr : r < 4) : ∃ σ', f_X10_single (nI r) σ = some (.inr (nI ((R r).length - (sng a (R r)).length)), σ') ∧ qIN a (qRs R r (sng a (R r))) σ' := by
  have hn := h.len hr
  have hl := sng_len a (R r)
  have t : f_X10_single_L17 (16 + r) (nI (R r).length) FU (nI 0) (nI 0) σ = some (nI (sng a (R r)).length, sr σ (16 + r + 16) (wr (gr σ (16 + r + 16)) 0 (sng a (R r)))) := by
    cases hd : (R r).length with
    | zero =>
      rw [List.eq_nil_of_length_eq_zero hd, show sng a [] = [] from rfl, List.length_nil, wr_nil, sr_id]
      unfold FU f_X10_single_L17; simp (disch := omega) only [↓bnd_s, ↓bnd2_s, ↓bnd3_s, ↓bnd4_s, ↓bnd5_s, ↓bndR_l, ↓bndR_r, ↓bndX_l, ↓bndX_r, ↓bndQ_s, ↓bndQ2_s, bndQ_s, bndQ2_s, bnd_s, bnd2_s, bnd3_s, bnd4_s, bnd5_s, bndR_l, bndR_r, bndX_l, bndX_r, nq_lt, nq_le, nq_inj, nq_add, nq_mul, nq_sub, nq_div, nq_neg1, nq_clamp, nq_ne1, nq_le1, ne1_lt, n1_lt0, n1_lt, n1_ne, nz0, nz1, nz2, nz3, nz4, nz5, nz6, nz8, nz10, nz31, nz32, nz50, nz400, nz800, nz3200, nz20000, nlt_f, nlt_t, nle_f, nle_t, neq_f, neq_t, gi_si_e, gi_si_n, gp_sp_e, gp_sp_n, gr_sr_e, gr_sr_n, gi_sp, gi_sr, gp_si, gp_sr, gr_si, gr_sp, upd_e, upd_n, un_e, un_n, an_sn_e, an_sn_n, an_sm, an_sv, am_sn, am_sm_e, am_sm_n, am_sv, ai_sn, ai_sm, ai_sv_e, ai_sv_n, reduceIte, or_false, false_or, or_true, true_or, or_self, and_true, true_and, and_false, false_and, not_true_eq_false, not_false_eq_true]
    | succ d =>
      have hs := h.sg hr
      rw [hd, seg_s] at hs
      have e : seg (upd (gr σ (16 + r + 16)) 0 (gr σ (16 + r + 16) 0)) (0 + 1) d = seg (gr σ (16 + r + 16)) (0 + 1) d := seg_congr fun k _ => upd_n _ _ (by omega)
      have := single_C (r := r) (n := d + 1) h.m (by omega) hr d (fu := 3999) (i := 0 + 1) (j := 0) (g := qFs a (gr σ (16 + r + 16) 0)) (σ := sr σ (16 + r + 16) (upd (gr σ (16 + r + 16)) 0 (gr σ (16 + r + 16) 0))) (h.cd.fr (by simp (disch := omega) only [gi_si_e, gi_si_n, gp_sp_e, gp_sp_n, gr_sr_e, gr_sr_n, gi_sp, gi_sr, gp_si, gp_sr, gr_si, gr_sp, upd_e, upd_n, un_e, un_n, an_sn_e, an_sn_n, an_sm, an_sv, am_sn, am_sm_e, am_sm_n, am_sv, ai_sn, ai_sm, ai_sv_e, ai_sv_n, reduceIte, or_false, false_or, or_true, true_or, or_self, and_true, true_and, and_false, false_and, not_true_eq_false, not_false_eq_true]) (by simp (disch := omega) only [gi_si_e, gi_si_n, gp_sp_e, gp_sp_n, gr_sr_e, gr_sr_n, gi_sp, gi_sr, gp_si, gp_sr, gr_si, gr_sp, upd_e, upd_n, un_e, un_n, an_sn_e, an_sn_n, an_sm, an_sv, am_sn, am_sm_e, am_sm_n, am_sv, ai_sn, ai_sm, ai_sv_e, ai_sv_n, reduceIte, or_false, false_or, or_true, true_or, or_self, and_true, true_and, and_false, false_and, not_true_eq_false, not_false_eq_true]) (by simp (disch := omega) only [gi_si_e, gi_si_n, gp_sp_e, gp_sp_n, gr_sr_e, gr_sr_n, gi_sp, gi_sr, gp_si, gp_sr, gr_si, gr_sp, upd_e, upd_n, un_e, un_n, an_sn_e, an_sn_n, an_sm, an_sv, am_sn, am_sm_e, am_sm_n, am_sv, ai_sn, ai_sm, ai_sv_e, ai_sv_n, reduceIte, or_false, false_or, or_true, true_or, or_self, and_true, true_and, and_false, false_and, not_true_eq_false, not_false_eq_true])) (fun q hq => by
        rw [gr_sr_e _ _ rfl]
        by_cases eq : q = 0
        · rw [upd_e _ _ eq]; exact h.mk hr (by omega)
        · rw [upd_n _ _ eq]; exact h.mk hr (by omega)) (by omega) (by omega) (by omega) (by omega) (by rw [gr_sr_e _ _ rfl, upd_e _ _ rfl])
      rw [gr_sr_e _ _ rfl, e, wr_cons, sr_sr, show ∀ z : Nat, 0 + 1 + z = z + 1 from fun z => by omega] at this
      rw [← hs, sng, List.length_cons]
      unfold FU f_X10_single_L17; simp (disch := omega) only [↓bnd_s, ↓bnd2_s, ↓bnd3_s, ↓bnd4_s, ↓bnd5_s, ↓bndR_l, ↓bndR_r, ↓bndX_l, ↓bndX_r, ↓bndQ_s, ↓bndQ2_s, bndQ_s, bndQ2_s, bnd_s, bnd2_s, bnd3_s, bnd4_s, bnd5_s, bndR_l, bndR_r, bndX_l, bndX_r, nq_lt, nq_le, nq_inj, nq_add, nq_mul, nq_sub, nq_div, nq_neg1, nq_clamp, nq_ne1, nq_le1, ne1_lt, n1_lt0, n1_lt, n1_ne, nz0, nz1, nz2, nz3, nz4, nz5, nz6, nz8, nz10, nz31, nz32, nz50, nz400, nz800, nz3200, nz20000, nlt_f, nlt_t, nle_f, nle_t, neq_f, neq_t, gi_si_e, gi_si_n, gp_sp_e, gp_sp_n, gr_sr_e, gr_sr_n, gi_sp, gi_sr, gp_si, gp_sr, gr_si, gr_sp, upd_e, upd_n, un_e, un_n, an_sn_e, an_sn_n, an_sm, an_sv, am_sn, am_sm_e, am_sm_n, am_sv, ai_sn, ai_sm, ai_sv_e, ai_sv_n, reduceIte, or_false, false_or, or_true, true_or, or_self, and_true, true_and, and_false, false_and, not_true_eq_false, not_false_eq_true]; exact this
  refine ⟨_, ?_, h.wr hr (F := wr (gr σ (16 + r + 16)) 0 (sng a (R r))) (by omega) (fun x hx => h.vl hr x (sng_mem hx)) (seg_wr _ _ _)⟩
  unfold f_X10_single
  rw [rowAt_ok hr, bndX_r, h.sz hr, nz0, t, bnd2_s, nq_sub hl]
/-- turned -/
def rvF (f : Nat → Int32) (n i : Nat) : Nat → Int32 := fun k => if i ≤ k ∧ k < n - i then f (n - 1 - k) else f k
theorem rvF_end (f : Nat → Int32) (n : Nat) : rvF f n (n / 2) = f := by
  funext k
  unfold rvF
  by_cases h : n / 2 ≤ k ∧ k < n - n / 2
  · rw [if_pos h, show n - 1 - k = k by omega]
  · rw [if_neg h]
theorem rvF_step (f : Nat → Int32) {n i : Nat} (h : i < n / 2) : rvF (upd (upd f i (f (n - 1 - i))) (n - 1 - i) (f i)) n (i + 1) = rvF f n i := by
  funext k
  unfold rvF
  by_cases h1 : i + 1 ≤ k ∧ k < n - (i + 1)
  · rw [if_pos h1, if_pos (by omega), upd_n _ _ (by omega), upd_n _ _ (by omega)]
  · rw [if_neg h1]
    by_cases h2 : i ≤ k ∧ k < n - i
    · rw [if_pos h2]
      by_cases h3 : k = n - 1 - i
      · rw [upd_e _ _ h3, show n - 1 - k = i by omega]
      · rw [upd_n _ _ h3, upd_e _ _ (by omega), show n - 1 - k = n - 1 - i by omega]
    · rw [if_neg h2, upd_n _ _ (by omega), upd_n _ _ (by omega)]
theorem turn_C {r n : Nat} (hn : n ≤ 800) (hr : r < 4) : ∀ (d : Nat) {fu i : Nat} {σ : St}, gi σ (8 * (16 + r) + 1) = nI n → n / 2 - i = d → d < fu → i ≤ n / 2 →
    f_X6_reverse_L2 (16 + r) fu (nI i) σ = some (sr σ (16 + r + 16) (rvF (gr σ (16 + r + 16)) n i)) := by
  intro d
  induction d with
  | zero =>
    intro fu i σ hz hd hf hi
    obtain ⟨fu, rfl⟩ : ∃ f, fu = f + 1 := ⟨fu - 1, by omega⟩
    have e : i = n / 2 := by omega
    subst e
    rw [rvF_end, sr_id]
    unfold f_X6_reverse_L2; simp (disch := omega) only [↓bnd_s, ↓bnd2_s, ↓bnd3_s, ↓bnd4_s, ↓bnd5_s, ↓bndR_l, ↓bndR_r, ↓bndX_l, ↓bndX_r, ↓bndQ_s, ↓bndQ2_s, bndQ_s, bndQ2_s, bnd_s, bnd2_s, bnd3_s, bnd4_s, bnd5_s, bndR_l, bndR_r, bndX_l, bndX_r, nq_lt, nq_le, nq_inj, nq_add, nq_mul, nq_sub, nq_div, nq_neg1, nq_clamp, nq_ne1, nq_le1, ne1_lt, n1_lt0, n1_lt, n1_ne, nz0, nz1, nz2, nz3, nz4, nz5, nz6, nz8, nz10, nz31, nz32, nz50, nz400, nz800, nz3200, nz20000, nlt_f, nlt_t, nle_f, nle_t, neq_f, neq_t, gi_si_e, gi_si_n, gp_sp_e, gp_sp_n, gr_sr_e, gr_sr_n, gi_sp, gi_sr, gp_si, gp_sr, gr_si, gr_sp, upd_e, upd_n, un_e, un_n, an_sn_e, an_sn_n, an_sm, an_sv, am_sn, am_sm_e, am_sm_n, am_sv, ai_sn, ai_sm, ai_sv_e, ai_sv_n, reduceIte, or_false, false_or, or_true, true_or, or_self, and_true, true_and, and_false, false_and, not_true_eq_false, not_false_eq_true, hz]
  | succ d ih =>
    intro fu i σ hz hd hf hi
    obtain ⟨fu, rfl⟩ : ∃ f, fu = f + 1 := ⟨fu - 1, by omega⟩
    have := ih (fu := fu) (i := i + 1) (σ := sr (sr σ (16 + r + 16) (upd (gr σ (16 + r + 16)) i (gr σ (16 + r + 16) (n - 1 - i)))) (16 + r + 16) (upd (upd (gr σ (16 + r + 16)) i (gr σ (16 + r + 16) (n - 1 - i))) (n - 1 - i) (gr σ (16 + r + 16) i))) (by simp (disch := omega) only [gi_si_e, gi_si_n, gp_sp_e, gp_sp_n, gr_sr_e, gr_sr_n, gi_sp, gi_sr, gp_si, gp_sr, gr_si, gr_sp, upd_e, upd_n, un_e, un_n, an_sn_e, an_sn_n, an_sm, an_sv, am_sn, am_sm_e, am_sm_n, am_sv, ai_sn, ai_sm, ai_sv_e, ai_sv_n, reduceIte, or_false, false_or, or_true, true_or, or_self, and_true, true_and, and_false, false_and, not_true_eq_false, not_false_eq_true]; exact hz) (by omega) (by omega) (by omega)
    rw [gr_sr_e _ _ rfl, rvF_step _ (by omega), sr_sr, sr_sr] at this
    unfold f_X6_reverse_L2
    simp (disch := omega) only [↓bnd_s, ↓bnd2_s, ↓bnd3_s, ↓bnd4_s, ↓bnd5_s, ↓bndR_l, ↓bndR_r, ↓bndX_l, ↓bndX_r, ↓bndQ_s, ↓bndQ2_s, bndQ_s, bndQ2_s, bnd_s, bnd2_s, bnd3_s, bnd4_s, bnd5_s, bndR_l, bndR_r, bndX_l, bndX_r, nq_lt, nq_le, nq_inj, nq_add, nq_mul, nq_sub, nq_div, nq_neg1, nq_clamp, nq_ne1, nq_le1, ne1_lt, n1_lt0, n1_lt, n1_ne, nz0, nz1, nz2, nz3, nz4, nz5, nz6, nz8, nz10, nz31, nz32, nz50, nz400, nz800, nz3200, nz20000, nlt_f, nlt_t, nle_f, nle_t, neq_f, neq_t, gi_si_e, gi_si_n, gp_sp_e, gp_sp_n, gr_sr_e, gr_sr_n, gi_sp, gi_sr, gp_si, gp_sr, gr_si, gr_sp, upd_e, upd_n, un_e, un_n, an_sn_e, an_sn_n, an_sm, an_sv, am_sn, am_sm_e, am_sm_n, am_sv, ai_sn, ai_sm, ai_sv_e, ai_sv_n, reduceIte, or_false, false_or, or_true, true_or, or_self, and_true, true_and, and_false, false_and, not_true_eq_false, not_false_eq_true, hz, sr_sr]
    exact this
theorem rv_list {f : Nat → Int32} {L : List Int32} (h : seg f 0 L.length = L) : seg (rvF f L.length 0) 0 L.reverse.length = L.reverse := by
  rw [List.length_reverse]
  refine List.ext_getElem? fun k => ?_
  by_cases hk : k < L.length
  · rw [seg_get _ _ _ _ hk, List.getElem?_reverse hk, seg_of h (by omega), Nat.zero_add]
    unfold rvF
    rw [if_pos (by omega)]
  · rw [List.getElem?_eq_none (by rw [seg_len]; omega), List.getElem?_eq_none (by rw [List.length_reverse]; omega)]
theorem E_turn (h : qIN a R σ) {r : Nat} (hr : r < 4) : ∃ σ', f_X10_turn (nI r) σ = some (.inr (nI (R r).length), σ') ∧ qIN a (qRs R r (R r).reverse) σ' := by
  have hn := h.len hr
  have t := turn_C (r := r) hn hr _ (fu := FU) (i := 0) (h.sz hr) rfl (by unfold FU; omega) (by omega)
  have q := h.wr hr (L := (R r).reverse) (F := rvF (gr σ (16 + r + 16)) (R r).length 0) (by rw [List.length_reverse]; exact hn) (fun x hx => h.vl hr x (List.mem_reverse.mp hx)) (rv_list (h.sg hr))
  rw [List.length_reverse, si_id (by rw [gi_sr]; exact h.sz hr)] at q
  refine ⟨_, ?_, q⟩
  unfold f_X10_turn f_X6_reverse
  rw [rowAt_ok hr, bndX_r, nz0, t, bnd_s, bnd_s, gi_sr, h.sz hr]
/-- poured behind -/
theorem pour_C {r r2 n : Nat} (hn : n ≤ 800) (hr : r < 4) (hr2 : r2 < 4) (hne : r ≠ r2) : ∀ (d : Nat) {fu i t : Nat} {σ : St}, gi σ (8 * (16 + r) + 1) = nI n → gi σ (8 * (16 + r2) + 1) = nI t → t + d ≤ 800 → n - i = d → d < fu → i ≤ n →
    f_X10_pour_L30 (16 + r) (16 + r2) fu (nI i) σ = some (si (sr σ (16 + r2 + 16) (wr (gr σ (16 + r2 + 16)) t (seg (gr σ (16 + r + 16)) i d))) (8 * (16 + r2) + 1) (nI (t + d))) := by
  intro d
  induction d with
  | zero =>
    intro fu i t σ hz hz2 ht hd hf hi
    obtain ⟨fu, rfl⟩ : ∃ f, fu = f + 1 := ⟨fu - 1, by omega⟩
    rw [seg_0, wr_nil, sr_id, Nat.add_zero t, si_id hz2]
    unfold f_X10_pour_L30; simp (disch := omega) only [↓bnd_s, ↓bnd2_s, ↓bnd3_s, ↓bnd4_s, ↓bnd5_s, ↓bndR_l, ↓bndR_r, ↓bndX_l, ↓bndX_r, ↓bndQ_s, ↓bndQ2_s, bndQ_s, bndQ2_s, bnd_s, bnd2_s, bnd3_s, bnd4_s, bnd5_s, bndR_l, bndR_r, bndX_l, bndX_r, nq_lt, nq_le, nq_inj, nq_add, nq_mul, nq_sub, nq_div, nq_neg1, nq_clamp, nq_ne1, nq_le1, ne1_lt, n1_lt0, n1_lt, n1_ne, nz0, nz1, nz2, nz3, nz4, nz5, nz6, nz8, nz10, nz31, nz32, nz50, nz400, nz800, nz3200, nz20000, nlt_f, nlt_t, nle_f, nle_t, neq_f, neq_t, gi_si_e, gi_si_n, gp_sp_e, gp_sp_n, gr_sr_e, gr_sr_n, gi_sp, gi_sr, gp_si, gp_sr, gr_si, gr_sp, upd_e, upd_n, un_e, un_n, an_sn_e, an_sn_n, an_sm, an_sv, am_sn, am_sm_e, am_sm_n, am_sv, ai_sn, ai_sm, ai_sv_e, ai_sv_n, reduceIte, or_false, false_or, or_true, true_or, or_self, and_true, true_and, and_false, false_and, not_true_eq_false, not_false_eq_true, hz]
  | succ d ih =>
    intro fu i t σ hz hz2 ht hd hf hi
    obtain ⟨fu, rfl⟩ : ∃ f, fu = f + 1 := ⟨fu - 1, by omega⟩
    have e := append_eq (v := gr σ (16 + r + 16) i) hz2 (by omega)
    have := ih (fu := fu) (i := i + 1) (t := t + 1) (σ := si (sr σ (16 + r2 + 16) (upd (gr σ (16 + r2 + 16)) t (gr σ (16 + r + 16) i))) (8 * (16 + r2) + 1) (nI (t + 1))) (by simp (disch := omega) only [gi_si_e, gi_si_n, gp_sp_e, gp_sp_n, gr_sr_e, gr_sr_n, gi_sp, gi_sr, gp_si, gp_sr, gr_si, gr_sp, upd_e, upd_n, un_e, un_n, an_sn_e, an_sn_n, an_sm, an_sv, am_sn, am_sm_e, am_sm_n, am_sv, ai_sn, ai_sm, ai_sv_e, ai_sv_n, reduceIte, or_false, false_or, or_true, true_or, or_self, and_true, true_and, and_false, false_and, not_true_eq_false, not_false_eq_true]; exact hz) (by simp (disch := omega) only [gi_si_e, gi_si_n, gp_sp_e, gp_sp_n, gr_sr_e, gr_sr_n, gi_sp, gi_sr, gp_si, gp_sr, gr_si, gr_sp, upd_e, upd_n, un_e, un_n, an_sn_e, an_sn_n, an_sm, an_sv, am_sn, am_sm_e, am_sm_n, am_sv, ai_sn, ai_sm, ai_sv_e, ai_sv_n, reduceIte, or_false, false_or, or_true, true_or, or_self, and_true, true_and, and_false, false_and, not_true_eq_false, not_false_eq_true]) (by omega) (by omega) (by omega) (by omega)
    rw [gr_si, gr_sr_e _ _ rfl, gr_si, gr_sr_n _ _ (by omega), wr_cons, sr_si, si_si, sr_sr, ← seg_s, show t + 1 + d = t + (d + 1) by omega] at this
    unfold f_X10_pour_L30; simp (disch := omega) only [↓bnd_s, ↓bnd2_s, ↓bnd3_s, ↓bnd4_s, ↓bnd5_s, ↓bndR_l, ↓bndR_r, ↓bndX_l, ↓bndX_r, ↓bndQ_s, ↓bndQ2_s, bndQ_s, bndQ2_s, bnd_s, bnd2_s, bnd3_s, bnd4_s, bnd5_s, bndR_l, bndR_r, bndX_l, bndX_r, nq_lt, nq_le, nq_inj, nq_add, nq_mul, nq_sub, nq_div, nq_neg1, nq_clamp, nq_ne1, nq_le1, ne1_lt, n1_lt0, n1_lt, n1_ne, nz0, nz1, nz2, nz3, nz4, nz5, nz6, nz8, nz10, nz31, nz32, nz50, nz400, nz800, nz3200, nz20000, nlt_f, nlt_t, nle_f, nle_t, neq_f, neq_t, gi_si_e, gi_si_n, gp_sp_e, gp_sp_n, gr_sr_e, gr_sr_n, gi_sp, gi_sr, gp_si, gp_sr, gr_si, gr_sp, upd_e, upd_n, un_e, un_n, an_sn_e, an_sn_n, an_sm, an_sv, am_sn, am_sm_e, am_sm_n, am_sv, ai_sn, ai_sm, ai_sv_e, ai_sv_n, reduceIte, or_false, false_or, or_true, true_or, or_self, and_true, true_and, and_false, false_and, not_true_eq_false, not_false_eq_true, hz, e]; exact this
theorem two_rows (h : qIN a R σ) {r r2 n : Nat} (hr : r < 4) (hr2 : r2 < 4) (hne : r ≠ r2) {L L2 : List Int32} {F F2 : Nat → Int32} (hL : L.length ≤ 800) (hL2 : L2.length ≤ 800) (hv : vl a L) (hv2 : vl a L2) (hF : seg F 0 L.length = L) (hF2 : seg F2 0 L2.length = L2) :
    qIN a (qRs (qRs R r2 L2) r L) (si (sr (si (sr σ (16 + r2 + 16) F2) (8 * (16 + r2) + 1) (nI L2.length)) (16 + r + 16) F) (8 * (16 + r) + 1) (nI L.length)) :=
  (h.wr hr2 hL2 hv2 hF2).wr hr hL hv hF
theorem app_seg {f : Nat → Int32} {L M : List Int32} (h : seg f 0 L.length = L) : seg (wr f L.length M) 0 (L ++ M).length = L ++ M := by
  rw [List.length_append, seg_app, Nat.zero_add]
  congr 1
  · refine Eq.trans (seg_congr fun k hk => ?_) h
    rw [wr_out _ (Or.inl (by omega))]
  · exact seg_wr M f L.length
theorem vl_app {L M : List Int32} (h : vl a L) (h2 : vl a M) : vl a (L ++ M) := fun x hx => (List.mem_append.mp hx).elim (h x) (h2 x)
theorem vl_nil : vl a [] := fun _ hx => nomatch hx
theorem E_pour (h : qIN a R σ) {r r2 : Nat} (hr : r < 4) (hr2 : r2 < 4) (hne : r ≠ r2) (h8 : (R r).length + (R r2).length ≤ 800) : ∃ σ', f_X10_pour (nI r) (nI r2) σ = some (.inr (nI ((R r).length + (R r2).length)), σ') ∧ qIN a (qRs (qRs R r2 (R r2 ++ R r)) r []) σ' := by
  have hn := h.len hr
  have hn2 := h.len hr2
  have t := pour_C (r := r) (r2 := r2) hn hr hr2 hne _ (fu := FU) (i := 0) (t := (R r2).length) (h.sz hr) (h.sz hr2) (by omega) rfl (by unfold FU; omega) (by omega)
  rw [Nat.sub_zero, h.sg hr] at t
  have q := two_rows (n := 0) h hr hr2 hne (L := []) (L2 := R r2 ++ R r) (F := gr σ (16 + r + 16)) (F2 := wr (gr σ (16 + r2 + 16)) (R r2).length (R r)) (by rw [List.length_nil]; omega) (by rw [List.length_append]; omega) vl_nil (vl_app (h.vl hr2) (h.vl hr)) rfl (app_seg (h.sg hr2))
  rw [List.length_append, List.length_nil, sr_si, show ∀ s : St, gr s (16 + r + 16) = gr σ (16 + r + 16) → sr s (16 + r + 16) (gr σ (16 + r + 16)) = s from fun s e => by rw [← e]; exact sr_id _ _] at q
  · refine ⟨_, ?_, q⟩
    have e1 := needRoom_eq (n := (R r).length) (h.sz hr2) (by omega) (by omega)
    rw [if_pos (by omega)] at e1
    unfold f_X10_pour
    rw [rowAt_ok hr, bndX_r, rowAt_ok hr2, bndX_r, needUnlike hr hr2, if_neg hne, bndX_r, h.sz hr, e1, bndX_r, nz0, t, bnd_s]
    rw [gi_si_n _ _ (by omega), gi_si_e _ _ rfl, Nat.add_comm (R r2).length]
  · rw [gr_sr_n _ _ (by omega)]
theorem E_pour_no (h : qIN a R σ) {r r2 : Nat} (hr : r < 4) (hr2 : r2 < 4) (hne : r ≠ r2) (h8 : 800 < (R r).length + (R r2).length) : f_X10_pour (nI r) (nI r2) σ = some (.inl zS, σ) := by
  have hn := h.len hr
  have hn2 := h.len hr2
  have e1 := needRoom_eq (n := (R r).length) (h.sz hr2) (by omega) (by omega)
  rw [if_neg (by omega)] at e1
  unfold f_X10_pour
  rw [rowAt_ok hr, bndX_r, rowAt_ok hr2, bndX_r, needUnlike hr hr2, if_neg hne, bndX_r, h.sz hr, e1]; rfl
theorem E_pour_same (σ : St) : f_X10_pour (nI 0) (nI 0) σ = some (.inl zA, σ) := by
  unfold f_X10_pour
  rw [rowAt_ok (by omega), bndX_r, bndX_r, needUnlike (by omega) (by omega), if_pos rfl]; rfl
/-- dealt -/
theorem deal_C {r r2 n t0 : Nat} (hn : n ≤ 800) (hr : r < 4) (hr2 : r2 < 4) (hne : r ≠ r2) (ht : t0 + n / 2 ≤ 800) : ∀ (d : Nat) {fu i : Nat} {σ : St}, gi σ (8 * (16 + r) + 1) = nI n → gi σ (8 * (16 + r2) + 1) = nI (t0 + i / 2) → n - i = d → d < fu → i ≤ n →
    f_X10_deal_L39 (16 + r) (16 + r2) fu (nI ((i + 1) / 2)) (nI i) σ = some (nI ((n + 1) / 2), si (sr (sr σ (16 + r + 16) (wr (gr σ (16 + r + 16)) ((i + 1) / 2) (seg (fun k => gr σ (16 + r + 16) (2 * k)) ((i + 1) / 2) ((n + 1) / 2 - (i + 1) / 2)))) (16 + r2 + 16) (wr (gr σ (16 + r2 + 16)) (t0 + i / 2) (seg (fun k => gr σ (16 + r + 16) (2 * k + 1)) (i / 2) (n / 2 - i / 2)))) (8 * (16 + r2) + 1) (nI (t0 + n / 2))) := by
  intro d
  induction d with
  | zero =>
    intro fu i σ hz hz2 hd hf hi
    obtain ⟨fu, rfl⟩ : ∃ f, fu = f + 1 := ⟨fu - 1, by omega⟩
    have e : i = n := by omega
    subst e
    rw [Nat.sub_self, Nat.sub_self, seg_0, seg_0, wr_nil, wr_nil, sr_id, sr_id, si_id hz2]
    unfold f_X10_deal_L39; simp (disch := omega) only [↓bnd_s, ↓bnd2_s, ↓bnd3_s, ↓bnd4_s, ↓bnd5_s, ↓bndR_l, ↓bndR_r, ↓bndX_l, ↓bndX_r, ↓bndQ_s, ↓bndQ2_s, bndQ_s, bndQ2_s, bnd_s, bnd2_s, bnd3_s, bnd4_s, bnd5_s, bndR_l, bndR_r, bndX_l, bndX_r, nq_lt, nq_le, nq_inj, nq_add, nq_mul, nq_sub, nq_div, nq_neg1, nq_clamp, nq_ne1, nq_le1, ne1_lt, n1_lt0, n1_lt, n1_ne, nz0, nz1, nz2, nz3, nz4, nz5, nz6, nz8, nz10, nz31, nz32, nz50, nz400, nz800, nz3200, nz20000, nlt_f, nlt_t, nle_f, nle_t, neq_f, neq_t, gi_si_e, gi_si_n, gp_sp_e, gp_sp_n, gr_sr_e, gr_sr_n, gi_sp, gi_sr, gp_si, gp_sr, gr_si, gr_sp, upd_e, upd_n, un_e, un_n, an_sn_e, an_sn_n, an_sm, an_sv, am_sn, am_sm_e, am_sm_n, am_sv, ai_sn, ai_sm, ai_sv_e, ai_sv_n, reduceIte, or_false, false_or, or_true, true_or, or_self, and_true, true_and, and_false, false_and, not_true_eq_false, not_false_eq_true, hz]
  | succ d ih =>
    intro fu i σ hz hz2 hd hf hi
    obtain ⟨fu, rfl⟩ : ∃ f, fu = f + 1 := ⟨fu - 1, by omega⟩
    rcases Nat.mod_two_eq_zero_or_one i with h2 | h2
    · have e1 : (i + 1 + 1) / 2 = (i + 1) / 2 + 1 := by omega
      have e2 : (i + 1) / 2 = i / 2 := by omega
      have e3 : (n + 1) / 2 - (i + 1) / 2 = (n + 1) / 2 - ((i + 1) / 2 + 1) + 1 := by omega
      have e4 : 2 * ((i + 1) / 2) = i := by omega
      have := ih (fu := fu) (i := i + 1) (σ := sr σ (16 + r + 16) (upd (gr σ (16 + r + 16)) ((i + 1) / 2) (gr σ (16 + r + 16) i))) (by simp (disch := omega) only [gi_si_e, gi_si_n, gp_sp_e, gp_sp_n, gr_sr_e, gr_sr_n, gi_sp, gi_sr, gp_si, gp_sr, gr_si, gr_sp, upd_e, upd_n, un_e, un_n, an_sn_e, an_sn_n, an_sm, an_sv, am_sn, am_sm_e, am_sm_n, am_sv, ai_sn, ai_sm, ai_sv_e, ai_sv_n, reduceIte, or_false, false_or, or_true, true_or, or_self, and_true, true_and, and_false, false_and, not_true_eq_false, not_false_eq_true]; exact hz) (by simp (disch := omega) only [gi_si_e, gi_si_n, gp_sp_e, gp_sp_n, gr_sr_e, gr_sr_n, gi_sp, gi_sr, gp_si, gp_sr, gr_si, gr_sp, upd_e, upd_n, un_e, un_n, an_sn_e, an_sn_n, an_sm, an_sv, am_sn, am_sm_e, am_sm_n, am_sv, ai_sn, ai_sm, ai_sv_e, ai_sv_n, reduceIte, or_false, false_or, or_true, true_or, or_self, and_true, true_and, and_false, false_and, not_true_eq_false, not_false_eq_true]; rw [e2]; exact hz2) (by omega) (by omega) (by omega)
      rw [e1, gr_sr_e _ _ rfl, gr_sr_n _ _ (show 16 + r2 + 16 ≠ 16 + r + 16 by omega), sr_sr] at this
      rw [seg_congr (f := fun k => upd (gr σ (16 + r + 16)) ((i + 1) / 2) (gr σ (16 + r + 16) i) (2 * k)) (g := fun k => gr σ (16 + r + 16) (2 * k)) (i := (i + 1) / 2 + 1) (j := (i + 1) / 2 + 1) (fun k _ => upd_n _ _ (by omega))] at this
      rw [seg_congr (f := fun k => upd (gr σ (16 + r + 16)) ((i + 1) / 2) (gr σ (16 + r + 16) i) (2 * k + 1)) (g := fun k => gr σ (16 + r + 16) (2 * k + 1)) (i := (i + 1) / 2) (j := (i + 1) / 2) (fun k _ => upd_n _ _ (by omega))] at this
      rw [wr_cons] at this
      rw [e3, seg_s, e4, ← e2]
      have g1 : nI i - nI i / nI 2 * nI 2 = nI 0 := by rw [nq_div (by omega) (by omega), nq_mul, nq_sub (by omega), show i - i / 2 * 2 = 0 by omega]
      have g2 : (nI 0 = nI 1) = False := by rw [nq_inj (by omega) (by omega)]; exact eq_false (by omega)
      unfold f_X10_deal_L39
      rw [nz2, nz1, g1]
      simp (disch := omega) only [↓bnd_s, ↓bnd2_s, ↓bnd3_s, ↓bnd4_s, ↓bnd5_s, ↓bndR_l, ↓bndR_r, ↓bndX_l, ↓bndX_r, ↓bndQ_s, ↓bndQ2_s, bndQ_s, bndQ2_s, bnd_s, bnd2_s, bnd3_s, bnd4_s, bnd5_s, bndR_l, bndR_r, bndX_l, bndX_r, nq_lt, nq_le, nq_inj, nq_add, nq_mul, nq_sub, nq_div, nq_neg1, nq_clamp, nq_ne1, nq_le1, ne1_lt, n1_lt0, n1_lt, n1_ne, nz0, nz1, nz2, nz3, nz4, nz5, nz6, nz8, nz10, nz31, nz32, nz50, nz400, nz800, nz3200, nz20000, nlt_f, nlt_t, nle_f, nle_t, neq_f, neq_t, gi_si_e, gi_si_n, gp_sp_e, gp_sp_n, gr_sr_e, gr_sr_n, gi_sp, gi_sr, gp_si, gp_sr, gr_si, gr_sp, upd_e, upd_n, un_e, un_n, an_sn_e, an_sn_n, an_sm, an_sv, am_sn, am_sm_e, am_sm_n, am_sv, ai_sn, ai_sm, ai_sv_e, ai_sv_n, reduceIte, or_false, false_or, or_true, true_or, or_self, and_true, true_and, and_false, false_and, not_true_eq_false, not_false_eq_true, hz, g2]
      exact this
    · have e1 : (i + 1 + 1) / 2 = (i + 1) / 2 := by omega
      have e2 : (i + 1) / 2 = i / 2 + 1 := by omega
      have e3 : n / 2 - i / 2 = n / 2 - (i / 2 + 1) + 1 := by omega
      have e4 : 2 * (i / 2) + 1 = i := by omega
      have ea := append_eq (v := gr σ (16 + r + 16) i) hz2 (by omega)
      have := ih (fu := fu) (i := i + 1) (σ := si (sr σ (16 + r2 + 16) (upd (gr σ (16 + r2 + 16)) (t0 + i / 2) (gr σ (16 + r + 16) i))) (8 * (16 + r2) + 1) (nI (t0 + i / 2 + 1))) (by simp (disch := omega) only [gi_si_e, gi_si_n, gp_sp_e, gp_sp_n, gr_sr_e, gr_sr_n, gi_sp, gi_sr, gp_si, gp_sr, gr_si, gr_sp, upd_e, upd_n, un_e, un_n, an_sn_e, an_sn_n, an_sm, an_sv, am_sn, am_sm_e, am_sm_n, am_sv, ai_sn, ai_sm, ai_sv_e, ai_sv_n, reduceIte, or_false, false_or, or_true, true_or, or_self, and_true, true_and, and_false, false_and, not_true_eq_false, not_false_eq_true]; exact hz) (by simp (disch := omega) only [gi_si_e, gi_si_n, gp_sp_e, gp_sp_n, gr_sr_e, gr_sr_n, gi_sp, gi_sr, gp_si, gp_sr, gr_si, gr_sp, upd_e, upd_n, un_e, un_n, an_sn_e, an_sn_n, an_sm, an_sv, am_sn, am_sm_e, am_sm_n, am_sv, ai_sn, ai_sm, ai_sv_e, ai_sv_n, reduceIte, or_false, false_or, or_true, true_or, or_self, and_true, true_and, and_false, false_and, not_true_eq_false, not_false_eq_true]; rw [e2]; rfl) (by omega) (by omega) (by omega)
      rw [e1, gr_si, gr_sr_n _ _ (show 16 + r + 16 ≠ 16 + r2 + 16 by omega), gr_si, gr_sr_e _ _ rfl] at this
      rw [e3, seg_s, e4]
      have g1 : nI i - nI i / nI 2 * nI 2 = nI 1 := by rw [nq_div (by omega) (by omega), nq_mul, nq_sub (by omega), show i - i / 2 * 2 = 1 by omega]
      have sw : ∀ (F G : Nat → Int32), sr (sr (si (sr σ (16 + r2 + 16) (upd (gr σ (16 + r2 + 16)) (t0 + i / 2) (gr σ (16 + r + 16) i))) (8 * (16 + r2) + 1) (nI (t0 + i / 2 + 1))) (16 + r + 16) F) (16 + r2 + 16) G = si (sr (sr σ (16 + r + 16) F) (16 + r2 + 16) G) (8 * (16 + r2) + 1) (nI (t0 + i / 2 + 1)) := by
        intro F G
        unfold sr si va_up
        refine Prod.ext rfl (Prod.ext rfl ?_)
        funext j
        by_cases j1 : j = 16 + r2 + 16
        · simp [j1]
        · simp [j1]
      rw [sw, si_si, e2, ← Nat.add_assoc, wr_cons] at this
      unfold f_X10_deal_L39
      rw [nz2, nz1, g1]
      simp (disch := omega) only [↓bnd_s, ↓bnd2_s, ↓bnd3_s, ↓bnd4_s, ↓bnd5_s, ↓bndR_l, ↓bndR_r, ↓bndX_l, ↓bndX_r, ↓bndQ_s, ↓bndQ2_s, bndQ_s, bndQ2_s, bnd_s, bnd2_s, bnd3_s, bnd4_s, bnd5_s, bndR_l, bndR_r, bndX_l, bndX_r, nq_lt, nq_le, nq_inj, nq_add, nq_mul, nq_sub, nq_div, nq_neg1, nq_clamp, nq_ne1, nq_le1, ne1_lt, n1_lt0, n1_lt, n1_ne, nz0, nz1, nz2, nz3, nz4, nz5, nz6, nz8, nz10, nz31, nz32, nz50, nz400, nz800, nz3200, nz20000, nlt_f, nlt_t, nle_f, nle_t, neq_f, neq_t, gi_si_e, gi_si_n, gp_sp_e, gp_sp_n, gr_sr_e, gr_sr_n, gi_sp, gi_sr, gp_si, gp_sr, gr_si, gr_sp, upd_e, upd_n, un_e, un_n, an_sn_e, an_sn_n, an_sm, an_sv, am_sn, am_sm_e, am_sm_n, am_sv, ai_sn, ai_sm, ai_sv_e, ai_sv_n, reduceIte, or_false, false_or, or_true, true_or, or_self, and_true, true_and, and_false, false_and, not_true_eq_false, not_false_eq_true, hz, ea]
      rw [e2]
      exact this
theorem E_deal (h : qIN a R σ) {r r2 : Nat} (hr : r < 4) (hr2 : r2 < 4) (hne : r ≠ r2) (h8 : (R r2).length + (R r).length / 2 ≤ 800) : ∃ σ', f_X10_deal (nI r) (nI r2) σ = some (.inr (nI ((R r).length / 2)), σ') ∧
    qIN a (qRs (qRs R r2 (R r2 ++ seg (fun k => gr σ (16 + r + 16) (2 * k + 1)) 0 ((R r).length / 2))) r (seg (fun k => gr σ (16 + r + 16) (2 * k)) 0 (((R r).length + 1) / 2))) σ' := by
  have hn := h.len hr
  have hn2 := h.len hr2
  have t := deal_C (r := r) (r2 := r2) (t0 := (R r2).length) hn hr hr2 hne h8 _ (fu := FU) (i := 0) (h.sz hr) (h.sz hr2) rfl (by unfold FU; omega) (by omega)
  rw [show (0 + 1) / 2 = 0 from rfl, Nat.sub_zero, Nat.sub_zero, Nat.add_zero (R r2).length] at t
  have v1 : vl a (seg (fun k => gr σ (16 + r + 16) (2 * k)) 0 (((R r).length + 1) / 2)) := fun x hx => by
    obtain ⟨k, hk, e⟩ := seg_mem hx
    rw [e]; exact h.mk hr (by omega)
  have v2 : vl a (seg (fun k => gr σ (16 + r + 16) (2 * k + 1)) 0 ((R r).length / 2)) := fun x hx => by
    obtain ⟨k, hk, e⟩ := seg_mem hx
    rw [e]; exact h.mk hr (by omega)
  have q := two_rows (n := 0) h hr hr2 hne (L := seg (fun k => gr σ (16 + r + 16) (2 * k)) 0 (((R r).length + 1) / 2)) (L2 := R r2 ++ seg (fun k => gr σ (16 + r + 16) (2 * k + 1)) 0 ((R r).length / 2)) (F := wr (gr σ (16 + r + 16)) 0 (seg (fun k => gr σ (16 + r + 16) (2 * k)) 0 (((R r).length + 1) / 2))) (F2 := wr (gr σ (16 + r2 + 16)) (R r2).length (seg (fun k => gr σ (16 + r + 16) (2 * k + 1)) 0 ((R r).length / 2))) (by rw [seg_len]; omega) (by rw [List.length_append, seg_len]; omega) v1 (vl_app (h.vl hr2) v2) (seg_wr _ _ _) (app_seg (h.sg hr2))
  rw [List.length_append, seg_len, seg_len] at q
  have sw : ∀ (F G : Nat → Int32) (v : Int32), sr (si (sr σ (16 + r2 + 16) G) (8 * (16 + r2) + 1) v) (16 + r + 16) F = si (sr (sr σ (16 + r + 16) F) (16 + r2 + 16) G) (8 * (16 + r2) + 1) v := by
    intro F G v
    unfold sr si va_up
    refine Prod.ext rfl (Prod.ext rfl ?_)
    funext j
    by_cases j1 : j = 16 + r2 + 16
    · have j2 : ¬ j = 16 + r + 16 := by omega
      simp only [j1, if_true]
      rw [if_neg (by omega)]
    · simp [j1]
  rw [sw] at q
  refine ⟨_, ?_, q⟩
  have e1 := needRoom_eq (n := (R r).length / 2) (h.sz hr2) (by omega) (by omega)
  rw [if_pos (by omega)] at e1
  have e0 : nI (R r).length / (2 : Int32) = nI ((R r).length / 2) := nq_div (b := 2) (by omega) (by decide)
  unfold f_X10_deal
  rw [rowAt_ok hr, bndX_r, rowAt_ok hr2, bndX_r, needUnlike hr hr2, if_neg hne, bndX_r, h.sz hr, e0, e1, bndX_r, nz0, t, bnd2_s]
theorem E_deal_no (h : qIN a R σ) {r r2 : Nat} (hr : r < 4) (hr2 : r2 < 4) (hne : r ≠ r2) (h8 : 800 < (R r2).length + (R r).length / 2) : f_X10_deal (nI r) (nI r2) σ = some (.inl zS, σ) := by
  have hn := h.len hr
  have hn2 := h.len hr2
  have e1 := needRoom_eq (n := (R r).length / 2) (h.sz hr2) (by omega) (by omega)
  rw [if_neg (by omega)] at e1
  have e0 : nI (R r).length / (2 : Int32) = nI ((R r).length / 2) := nq_div (b := 2) (by omega) (by decide)
  unfold f_X10_deal
  rw [rowAt_ok hr, bndX_r, rowAt_ok hr2, bndX_r, needUnlike hr hr2, if_neg hne, bndX_r, h.sz hr, e0, e1]; rfl
/-- moved -/
def mvF (f : Nat → Int32) (p q : Nat) : Nat → Int32 := fun k => if k = q then f p else if p ≤ k ∧ k < q then f (k + 1) else if q < k ∧ k ≤ p then f (k - 1) else f k
theorem E_move (h : qIN a R σ) {r p q : Nat} (hr : r < 4) (hp : p < (R r).length) (hq : q < (R r).length) : ∃ σ', f_X10_move (nI r) (nI p) (nI q) σ = some (.inr (gr σ (16 + r + 16) p), σ') ∧ qIN a (qRs R r (seg (mvF (gr σ (16 + r + 16)) p q) 0 (R r).length)) σ' := by
  have hn := h.len hr
  have e1 := takeOut_eq (p := p) (h.sz hr) (by omega) hp
  have e2 := insert_eq (σ := sr (si σ (8 * (16 + r) + 1) (nI ((R r).length - 1))) (16 + r + 16) (va_cpy (gr σ (16 + r + 16)) (gr σ (16 + r + 16)) (p + 1) p ((R r).length - 1 - p))) (j := 16 + r) (s := (R r).length - 1) (p := q) (v := gr σ (16 + r + 16) p) (by simp (disch := omega) only [gi_si_e, gi_si_n, gp_sp_e, gp_sp_n, gr_sr_e, gr_sr_n, gi_sp, gi_sr, gp_si, gp_sr, gr_si, gr_sp, upd_e, upd_n, un_e, un_n, an_sn_e, an_sn_n, an_sm, an_sv, am_sn, am_sm_e, am_sm_n, am_sv, ai_sn, ai_sm, ai_sv_e, ai_sv_n, reduceIte, or_false, false_or, or_true, true_or, or_self, and_true, true_and, and_false, false_and, not_true_eq_false, not_false_eq_true]) (by omega) (by omega)
  obtain ⟨G, hG⟩ : ∃ G, G = va_cpy (gr σ (16 + r + 16)) (gr σ (16 + r + 16)) (p + 1) p ((R r).length - 1 - p) := ⟨_, rfl⟩
  rw [← hG] at e1 e2
  rw [gr_sr_e _ _ rfl, sr_si, sr_si, sr_sr, si_si, show (R r).length - 1 + 1 = (R r).length by omega] at e2
  have hl : (seg (mvF (gr σ (16 + r + 16)) p q) 0 (R r).length).length = (R r).length := seg_len _ _ _
  have gl : ∀ k, p ≤ k → k < (R r).length - 1 → G k = gr σ (16 + r + 16) (k + 1) := fun k h1 h2 => by
    rw [hG, cpy_i _ _ h1 (by omega)]; congr 1; omega
  have go : ∀ k, k < p → G k = gr σ (16 + r + 16) k := fun k h1 => by rw [hG, cpy_o _ _ (Or.inl h1)]
  have hs : seg (upd (va_cpy G G q (q + 1) ((R r).length - 1 - q)) q (gr σ (16 + r + 16) p)) 0 (R r).length = seg (mvF (gr σ (16 + r + 16)) p q) 0 (R r).length := seg_congr fun k hk => by
    rw [Nat.zero_add]
    unfold mvF
    by_cases k1 : k = q
    · rw [upd_e _ _ k1, if_pos k1]
    · rw [upd_n _ _ k1, if_neg k1]
      by_cases k2 : k < q
      · rw [cpy_o _ _ (Or.inl (by omega))]
        by_cases k3 : p ≤ k
        · rw [if_pos ⟨k3, k2⟩, gl k k3 (by omega)]
        · rw [if_neg (by omega), if_neg (by omega), go k (by omega)]
      · rw [cpy_i _ _ (by omega) (by omega), show q + (k - (q + 1)) = k - 1 by omega, if_neg (by omega)]
        by_cases k3 : k ≤ p
        · rw [if_pos (by omega), go (k - 1) (by omega)]
        · rw [if_neg (by omega), gl (k - 1) (by omega) (by omega), show k - 1 + 1 = k by omega]
  have qn := h.wr hr (L := seg (mvF (gr σ (16 + r + 16)) p q) 0 (R r).length) (F := upd (va_cpy G G q (q + 1) ((R r).length - 1 - q)) q (gr σ (16 + r + 16) p)) (by rw [hl]; exact hn) (fun x hx => by
    obtain ⟨k, hk, e⟩ := seg_mem hx
    rw [e, Nat.zero_add]
    unfold mvF
    by_cases k1 : k = q
    · rw [if_pos k1]; exact h.mk hr hp
    · rw [if_neg k1]
      by_cases k2 : p ≤ k ∧ k < q
      · rw [if_pos k2]; exact h.mk hr (by omega)
      · rw [if_neg k2]
        by_cases k3 : q < k ∧ k ≤ p
        · rw [if_pos k3]; exact h.mk hr (by omega)
        · rw [if_neg k3]; exact h.mk hr hk) (by rw [hl]; exact hs)
  rw [hl] at qn
  refine ⟨_, ?_, qn⟩
  unfold f_X10_move f_X10_needPlace
  rw [rowAt_ok hr, bndX_r]
  simp (disch := omega) only [↓bnd_s, ↓bnd2_s, ↓bnd3_s, ↓bnd4_s, ↓bnd5_s, ↓bndR_l, ↓bndR_r, ↓bndX_l, ↓bndX_r, ↓bndQ_s, ↓bndQ2_s, bndQ_s, bndQ2_s, bnd_s, bnd2_s, bnd3_s, bnd4_s, bnd5_s, bndR_l, bndR_r, bndX_l, bndX_r, nq_lt, nq_le, nq_inj, nq_add, nq_mul, nq_sub, nq_div, nq_neg1, nq_clamp, nq_ne1, nq_le1, ne1_lt, n1_lt0, n1_lt, n1_ne, nz0, nz1, nz2, nz3, nz4, nz5, nz6, nz8, nz10, nz31, nz32, nz50, nz400, nz800, nz3200, nz20000, nlt_f, nlt_t, nle_f, nle_t, neq_f, neq_t, gi_si_e, gi_si_n, gp_sp_e, gp_sp_n, gr_sr_e, gr_sr_n, gi_sp, gi_sr, gp_si, gp_sr, gr_si, gr_sp, upd_e, upd_n, un_e, un_n, an_sn_e, an_sn_n, an_sm, an_sv, am_sn, am_sm_e, am_sm_n, am_sv, ai_sn, ai_sm, ai_sv_e, ai_sv_n, reduceIte, or_false, false_or, or_true, true_or, or_self, and_true, true_and, and_false, false_and, not_true_eq_false, not_false_eq_true, h.sz hr, e1, sr_si, e2]
theorem E_move_no (h : qIN a R σ) {r : Nat} (hr : r < 4) (hz : (R r).length = 0) : f_X10_move (nI r) (nI 0) (nI 0) σ = some (.inl zI, σ) := by
  have hs := h.sz hr
  rw [hz] at hs
  unfold f_X10_move f_X10_needPlace
  rw [rowAt_ok hr, bndX_r]
  simp (disch := omega) only [↓bnd_s, ↓bnd2_s, ↓bnd3_s, ↓bnd4_s, ↓bnd5_s, ↓bndR_l, ↓bndR_r, ↓bndX_l, ↓bndX_r, ↓bndQ_s, ↓bndQ2_s, bndQ_s, bndQ2_s, bnd_s, bnd2_s, bnd3_s, bnd4_s, bnd5_s, bndR_l, bndR_r, bndX_l, bndX_r, nq_lt, nq_le, nq_inj, nq_add, nq_mul, nq_sub, nq_div, nq_neg1, nq_clamp, nq_ne1, nq_le1, ne1_lt, n1_lt0, n1_lt, n1_ne, nz0, nz1, nz2, nz3, nz4, nz5, nz6, nz8, nz10, nz31, nz32, nz50, nz400, nz800, nz3200, nz20000, nlt_f, nlt_t, nle_f, nle_t, neq_f, neq_t, gi_si_e, gi_si_n, gp_sp_e, gp_sp_n, gr_sr_e, gr_sr_n, gi_sp, gi_sr, gp_si, gp_sr, gr_si, gr_sp, upd_e, upd_n, un_e, un_n, an_sn_e, an_sn_n, an_sm, an_sv, am_sn, am_sm_e, am_sm_n, am_sv, ai_sn, ai_sm, ai_sv_e, ai_sv_n, reduceIte, or_false, false_or, or_true, true_or, or_self, and_true, true_and, and_false, false_and, not_true_eq_false, not_false_eq_true, hs]; rfl
end QM
