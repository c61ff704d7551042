/-! the runs of the text, in the class alone -/
theorem kStp_eq : ∀ k : Nat, k < 6 → (kStp k = nI 0 ↔ k = 0) ∧ (kLen k = nI 0 ↔ k ≠ 5) := by decide +kernel
def rC (n : Nat) (σ σ' : St) : Prop := (∀ k, k ≠ 82 → k ≠ 83 → (k < 8 * (64 + n) ∨ 8 * (64 + n) + 8 ≤ k) → gi σ' k = gi σ k) ∧ (∀ k, k ≠ 8 * (64 + n) → gp σ' k = gp σ k) ∧ ∀ j, gr σ' j = gr σ j
theorem rC.refl (n : Nat) (σ : St) : rC n σ σ := ⟨fun _ _ _ _ => rfl, fun _ _ => rfl, fun _ => rfl⟩
theorem rC.trans {n : Nat} {σ σ' σ2 : St} (h : rC n σ σ') (h2 : rC n σ' σ2) : rC n σ σ2 := ⟨fun k a b c => (h2.1 k a b c).trans (h.1 k a b c), fun k a => (h2.2.1 k a).trans (h.2.1 k a), fun j => (h2.2.2 j).trans (h.2.2 j)⟩
theorem tC.r {σ σ' : St} (h : tC σ σ') (n : Nat) : rC n σ σ' := ⟨fun k a b _ => h.1 k a b, fun k _ => h.2.1 k, h.2.2⟩
theorem rC.fld (n : Nat) (σ : St) {u : Nat} (hu : u < 8) (v : Int32) : rC n σ (si σ (8 * (64 + n) + u) v) := ⟨fun k a b c => by simp (disch := omega) only [gi_si_e, gi_si_n, gp_sp_e, gp_sp_n, gr_sr_e, gr_sr_n, gi_sp, gi_sr, gp_si, gp_sr, gr_si, gr_sp, upd_e, upd_n, un_e, un_n, an_sn_e, an_sn_n, an_sm, an_sv, am_sn, am_sm_e, am_sm_n, am_sv, ai_sn, ai_sm, ai_sv_e, ai_sv_n, reduceIte, or_false, false_or, or_true, true_or, or_self, and_true, true_and, and_false, false_and, not_true_eq_false, not_false_eq_true], fun _ _ => rfl, fun _ => rfl⟩
theorem rC.spk (n : Nat) (σ : St) (v : Nat) : rC n σ (sp σ (8 * (64 + n)) v) := ⟨fun k a b c => rfl, fun k a => by simp (disch := omega) only [gi_si_e, gi_si_n, gp_sp_e, gp_sp_n, gr_sr_e, gr_sr_n, gi_sp, gi_sr, gp_si, gp_sr, gr_si, gr_sp, upd_e, upd_n, un_e, un_n, an_sn_e, an_sn_n, an_sm, an_sv, am_sn, am_sm_e, am_sm_n, am_sv, ai_sn, ai_sm, ai_sv_e, ai_sv_n, reduceIte, or_false, false_or, or_true, true_or, or_self, and_true, true_and, and_false, false_and, not_true_eq_false, not_false_eq_true], fun _ => rfl⟩
theorem n10 : ¬ (nI 1 = (0 : Int32)) := by decide +kernel
theorem p00 : nI 0 = (0 : Int32) := rfl
theorem g11 : ¬ ¬ ((1 : Int32) = 0 ∨ (1 : Int32) = 1) := by decide +kernel
section RR
variable {σ σ1 σ2 σ3 σ4 σ5 σ6 σ7 : St} {c : Nat}
theorem rr7 (h1 : f_X5_readKind c σ = some (nI 1, σ1)) (h2 : f_X5_readCards c σ1 = some (nI 1, σ2)) (h3 : f_X5_readStart c σ2 = some (nI 1, σ3)) (h4 : f_X5_readStep c σ3 = some (nI 1, σ4)) (h5 : f_X5_readLength c σ4 = some (nI 1, σ5)) (h6 : f_X5_readDivisor c σ5 = some (nI 1, σ6)) (h7 : f_X5_readToken 6 σ6 = some (nI 1, σ7)) : f_X5_readRun c σ = some (nI 1, σ7) := by
  unfold f_X5_readRun
  rw [h1, bnd2_s, if_neg n10, h2, bnd2_s, if_neg n10, h3, bnd2_s, if_neg n10, h4, bnd2_s, if_neg n10, h5, bnd2_s, if_neg n10, h6, bnd2_s, if_neg n10, h7, bnd2_s, if_neg n10, bnd2_s, if_neg g11]; rfl
end RR
/-- a run, as it is written ahead of v -/
def mdT (md : Nat) (v : List Nat) : List Nat := if md = 0 then 59 :: v else 32 :: (wd 8 ++ 32 :: (dcL md ++ 59 :: v))
def lnT (kd ln : Nat) (v : List Nat) : List Nat := if kd = 5 then 32 :: (dcL ln ++ v) else v
def spT (kd sq : Nat) (v : List Nat) : List Nat := if kd = 0 then v else 32 :: (dcL sq ++ v)
def ngT (ng : Bool) (v : List Nat) : List Nat := if ng = true then 45 :: 32 :: v else v
abbrev RN : Type := Nat × Nat × Bool × Nat × Nat × Nat × Nat
def rnT (q : RN) (v : List Nat) : List Nat := wd q.1 ++ 32 :: (dcL q.2.1 ++ 32 :: ngT q.2.2.1 (dcL q.2.2.2.1 ++ spT q.1 q.2.2.2.2.1 (lnT q.1 q.2.2.2.2.2.1 (mdT q.2.2.2.2.2.2 v))))
def okR (q : RN) : Prop := q.1 < 6 ∧ (1 ≤ q.2.1 ∧ q.2.1 ≤ 400) ∧ q.2.2.2.1 ≤ 999 ∧ q.2.2.2.2.1 ≤ 999 ∧ (1 ≤ q.2.2.2.2.2.1 ∧ q.2.2.2.2.2.1 ≤ 99) ∧ q.2.2.2.2.2.2 ≤ 99
def nod (w : List Nat) : Prop := w = [] ∨ ∃ y v, w = y :: v ∧ al y ≠ 1
theorem nod_32 (v : List Nat) : nod (32 :: v) := Or.inr ⟨32, v, rfl, by decide⟩
theorem nod_md (md : Nat) (v : List Nat) : nod (mdT md v) := by
  unfold mdT
  by_cases h : md = 0
  · rw [if_pos h]; exact Or.inr ⟨59, v, rfl, by decide⟩
  · rw [if_neg h]; exact nod_32 _
theorem nod_ln (kd ln md : Nat) (v : List Nat) : nod (lnT kd ln (mdT md v)) := by
  unfold lnT
  by_cases h : kd = 5
  · rw [if_pos h]; exact nod_32 _
  · rw [if_neg h]; exact nod_md _ _
theorem nod_sp (kd sq ln md : Nat) (v : List Nat) : nod (spT kd sq (lnT kd ln (mdT md v))) := by
  unfold spT
  by_cases h : kd = 0
  · rw [if_pos h]; exact nod_ln _ _ _ _
  · rw [if_neg h]; exact nod_32 _
theorem dc_hd {n : Nat} (hn : n < 1000) : ∃ x u, dcL n = x :: u ∧ 48 ≤ x ∧ x ≤ 57 := by
  obtain ⟨⟨x, u, d1, d2⟩, d3, d4⟩ := dc_all n hn
  exact ⟨x, u, d1, d3 x (by rw [d1]; exact List.mem_cons_self)⟩
theorem sk_dc {n : Nat} (hn : n < 1000) (w : List Nat) : sk (dcL n ++ w) = dcL n ++ w := by
  obtain ⟨x, u, d1, d2, d3⟩ := dc_hd hn
  rw [d1, List.cons_append, sk_n (by omega)]
theorem wd_hd : ∀ i : Nat, i < 9 → ∃ x u, wd i = x :: u ∧ x ≠ 32 := by
  intro i hi
  rcases (show i = 0 ∨ i = 1 ∨ i = 2 ∨ i = 3 ∨ i = 4 ∨ i = 5 ∨ i = 6 ∨ i = 7 ∨ i = 8 by omega) with rfl | rfl | rfl | rfl | rfl | rfl | rfl | rfl | rfl
  all_goals exact ⟨_, _, rfl, by decide⟩
theorem sk_wd {i : Nat} (hi : i < 9) (w : List Nat) : sk (wd i ++ w) = wd i ++ w := by
  obtain ⟨x, u, d1, d2⟩ := wd_hd i hi
  rw [d1, List.cons_append, sk_n d2]
theorem tk_wd {i : Nat} (hi : i < 6 ∨ i = 8) (v : List Nat) : tk (wd i ++ 32 :: v) = (wd i).length := by
  have h : (∃ x u, wd i = x :: u) ∧ ∀ y, y ∈ wd i → al y = 0 := by
    rcases (show i = 0 ∨ i = 1 ∨ i = 2 ∨ i = 3 ∨ i = 4 ∨ i = 5 ∨ i = 8 by omega) with rfl | rfl | rfl | rfl | rfl | rfl | rfl
    all_goals exact ⟨⟨_, _, rfl⟩, by decide⟩
  obtain ⟨⟨x, u, e⟩, h2⟩ := h
  rw [e] at h2 ⊢
  rw [tk_app (Or.inr ⟨32, v, rfl, by decide⟩) (by decide) h2, List.length_cons]
theorem wd_ne : ∀ i : Nat, i < 6 → ∀ k : Nat, k < i → wd i ≠ wd k := by decide
theorem take_wd (i : Nat) (v : List Nat) : (wd i ++ v).take (wd i).length = wd i := by rw [List.take_append_of_le_length (Nat.le_refl _), List.take_of_length_le (Nat.le_refl _)]
section RN1
variable {T : List Nat} {σ : St}
theorem TXc.fld (h : TXc T σ) {k : Nat} (hk : 512 ≤ k) (v : Int32) : TXc T (si σ k v) := ⟨h.1, h.2.1, by rw [gi_si_n _ _ (by omega)]; exact h.2.2.1, h.2.2.2⟩
theorem TXc.spk (h : TXc T σ) (k v : Nat) : TXc T (sp σ k v) := h
theorem TKc.fld {w : List Nat} (t : TKc T σ w) {k : Nat} (hk : 512 ≤ k) (v : Int32) : TKc T (si σ k v) w := t.tr (gi_si_n _ _ (by omega)) (gi_si_n _ _ (by omega))
theorem TKc.spk {w : List Nat} (t : TKc T σ w) (k v : Nat) : TKc T (sp σ k v) w := t
theorem kind_L {c kd : Nat} (hk6 : kd < 6) {v : List Nat} (h : TXc T σ) (t : TKc T σ (wd kd ++ 32 :: v)) : ∃ σ', TKc T σ' (sk v) ∧ tC σ σ' ∧ ∀ (d : Nat) {fu k : Nat}, kd - k = d → d < fu → k ≤ kd → f_X5_readKind_L2 c fu (nI k) σ = some (.inl (nI 1, sp σ' (8 * c) kd)) := by
  have hk := tk_wd (Or.inl hk6) v
  obtain ⟨σ', r1, r2, r3⟩ := readTok_yes (show kd < 9 by omega) h t hk
  rw [sk_b] at r2
  refine ⟨σ', r2, r3, fun d => ?_⟩
  induction d with
  | zero =>
    intro fu k hd hf hkk
    obtain ⟨fu, rfl⟩ : ∃ f, fu = f + 1 := ⟨fu - 1, by omega⟩
    have e : k = kd := by omega
    subst e
    unfold f_X5_readKind_L2; simp (disch := omega) only [↓bnd_s, ↓bnd2_s, ↓bnd3_s, ↓bnd4_s, ↓bnd5_s, ↓bndR_l, ↓bndR_r, ↓bndX_l, ↓bndX_r, ↓bndQ_s, ↓bndQ2_s, bndQ_s, bndQ2_s, bnd_s, bnd2_s, bnd3_s, bnd4_s, bnd5_s, bndR_l, bndR_r, bndX_l, bndX_r, nq_lt, nq_le, nq_inj, nq_add, nq_mul, nq_sub, nq_div, nq_neg1, nq_clamp, nq_ne1, nq_le1, ne1_lt, n1_lt0, n1_lt, n1_ne, nz0, nz1, nz2, nz3, nz4, nz5, nz6, nz8, nz10, nz31, nz32, nz50, nz400, nz800, nz3200, nz20000, nlt_f, nlt_t, nle_f, nle_t, neq_f, neq_t, gi_si_e, gi_si_n, gp_sp_e, gp_sp_n, gr_sr_e, gr_sr_n, gi_sp, gi_sr, gp_si, gp_sr, gr_si, gr_sp, upd_e, upd_n, un_e, un_n, an_sn_e, an_sn_n, an_sm, an_sv, am_sn, am_sm_e, am_sm_n, am_sv, ai_sn, ai_sm, ai_sv_e, ai_sv_n, reduceIte, or_false, false_or, or_true, true_or, or_self, and_true, true_and, and_false, false_and, not_true_eq_false, not_false_eq_true, r1]
  | succ d ih =>
    intro fu k hd hf hkk
    obtain ⟨fu, rfl⟩ : ∃ f, fu = f + 1 := ⟨fu - 1, by omega⟩
    have r0 := readTok_no (show k < 9 by omega) h t (by rw [hk, take_wd]; exact wd_ne kd hk6 k (by omega))
    have g := ih (fu := fu) (k := k + 1) (by omega) (by omega) (by omega)
    unfold f_X5_readKind_L2; simp (disch := omega) only [↓bnd_s, ↓bnd2_s, ↓bnd3_s, ↓bnd4_s, ↓bnd5_s, ↓bndR_l, ↓bndR_r, ↓bndX_l, ↓bndX_r, ↓bndQ_s, ↓bndQ2_s, bndQ_s, bndQ2_s, bnd_s, bnd2_s, bnd3_s, bnd4_s, bnd5_s, bndR_l, bndR_r, bndX_l, bndX_r, nq_lt, nq_le, nq_inj, nq_add, nq_mul, nq_sub, nq_div, nq_neg1, nq_clamp, nq_ne1, nq_le1, ne1_lt, n1_lt0, n1_lt, n1_ne, nz0, nz1, nz2, nz3, nz4, nz5, nz6, nz8, nz10, nz31, nz32, nz50, nz400, nz800, nz3200, nz20000, nlt_f, nlt_t, nle_f, nle_t, neq_f, neq_t, gi_si_e, gi_si_n, gp_sp_e, gp_sp_n, gr_sr_e, gr_sr_n, gi_sp, gi_sr, gp_si, gp_sr, gr_si, gr_sp, upd_e, upd_n, un_e, un_n, an_sn_e, an_sn_n, an_sm, an_sv, am_sn, am_sm_e, am_sm_n, am_sv, ai_sn, ai_sm, ai_sv_e, ai_sv_n, reduceIte, or_false, false_or, or_true, true_or, or_self, and_true, true_and, and_false, false_and, not_true_eq_false, not_false_eq_true, r0]; exact g
theorem kind_C {c kd : Nat} (hk6 : kd < 6) {v : List Nat} (h : TXc T σ) (t : TKc T σ (wd kd ++ 32 :: v)) : ∃ σ', f_X5_readKind c σ = some (nI 1, sp σ' (8 * c) kd) ∧ TKc T σ' (sk v) ∧ tC σ σ' := by
  obtain ⟨σ', r1, r2, r3⟩ := kind_L (c := c) hk6 h t
  refine ⟨σ', ?_, r1, r2⟩
  have g := r3 _ (fu := FU) (k := 0) rfl (by unfold FU; omega) (Nat.zero_le _)
  unfold f_X5_readKind
  rw [nz0, g]; rfl
theorem cards_C {c n : Nat} (h1 : 1 ≤ n) (h2 : n ≤ 400) {v : List Nat} (h : TXc T σ) (t : TKc T σ (dcL n ++ 32 :: v)) : ∃ σ', f_X5_readCards c σ = some (nI 1, si σ' (8 * c + 1) (nI n)) ∧ TKc T σ' (sk v) ∧ tC σ σ' := by
  obtain ⟨σ', n1, n2, n3⟩ := readNum_C (show n < 1000 by omega) h1 h2 (by decide) (nod_32 v) h t
  rw [sk_b] at n2
  refine ⟨σ', ?_, n2, n3⟩
  unfold f_X5_readCards; rw [nz1, nz400, n1]; simp (disch := omega) only [↓bnd_s, ↓bnd2_s, ↓bnd3_s, ↓bnd4_s, ↓bnd5_s, ↓bndR_l, ↓bndR_r, ↓bndX_l, ↓bndX_r, ↓bndQ_s, ↓bndQ2_s, bndQ_s, bndQ2_s, bnd_s, bnd2_s, bnd3_s, bnd4_s, bnd5_s, bndR_l, bndR_r, bndX_l, bndX_r, nq_lt, nq_le, nq_inj, nq_add, nq_mul, nq_sub, nq_div, nq_neg1, nq_clamp, nq_ne1, nq_le1, ne1_lt, n1_lt0, n1_lt, n1_ne, nz0, nz1, nz2, nz3, nz4, nz5, nz6, nz8, nz10, nz31, nz32, nz50, nz400, nz800, nz3200, nz20000, nlt_f, nlt_t, nle_f, nle_t, neq_f, neq_t, gi_si_e, gi_si_n, gp_sp_e, gp_sp_n, gr_sr_e, gr_sr_n, gi_sp, gi_sr, gp_si, gp_sr, gr_si, gr_sp, upd_e, upd_n, un_e, un_n, an_sn_e, an_sn_n, an_sm, an_sv, am_sn, am_sm_e, am_sm_n, am_sv, ai_sn, ai_sm, ai_sv_e, ai_sv_n, reduceIte, or_false, false_or, or_true, true_or, or_self, and_true, true_and, and_false, false_and, not_true_eq_false, not_false_eq_true]
theorem start_C {c n : Nat} (ng : Bool) (hn : n ≤ 999) {v : List Nat} (hv : nod v) (h : TXc T σ) (t : TKc T σ (ngT ng (dcL n ++ v))) : ∃ (σ' : St) (x : Int32), f_X5_readStart c σ = some (nI 1, si σ' (8 * c + 2) x) ∧ TKc T σ' (sk v) ∧ tC σ σ' := by
  cases ng with
  | true =>
    have t' : TKc T σ (wd 7 ++ (32 :: (dcL n ++ v))) := t
    obtain ⟨σ1, r1, r2, r3⟩ := readTok_yes (show 7 < 9 by decide) h t' rfl
    rw [sk_b, sk_dc (by omega)] at r2
    obtain ⟨σ', n1, n2, n3⟩ := readNum_C (show n < 1000 by omega) (Nat.zero_le _) (show n ≤ 9999 by omega) (by decide) hv (h.tr r3) r2
    refine ⟨σ', -nI n, ?_, n2, r3.trans n3⟩
    unfold f_X5_readStart; rw [r1]; rw [show (9999 : Int32) = nI 9999 from rfl, nz0]; simp (disch := omega) only [↓bnd_s, ↓bnd2_s, ↓bnd3_s, ↓bnd4_s, ↓bnd5_s, ↓bndR_l, ↓bndR_r, ↓bndX_l, ↓bndX_r, ↓bndQ_s, ↓bndQ2_s, bndQ_s, bndQ2_s, bnd_s, bnd2_s, bnd3_s, bnd4_s, bnd5_s, bndR_l, bndR_r, bndX_l, bndX_r, nq_lt, nq_le, nq_inj, nq_add, nq_mul, nq_sub, nq_div, nq_neg1, nq_clamp, nq_ne1, nq_le1, ne1_lt, n1_lt0, n1_lt, n1_ne, nz0, nz1, nz2, nz3, nz4, nz5, nz6, nz8, nz10, nz31, nz32, nz50, nz400, nz800, nz3200, nz20000, nlt_f, nlt_t, nle_f, nle_t, neq_f, neq_t, gi_si_e, gi_si_n, gp_sp_e, gp_sp_n, gr_sr_e, gr_sr_n, gi_sp, gi_sr, gp_si, gp_sr, gr_si, gr_sp, upd_e, upd_n, un_e, un_n, an_sn_e, an_sn_n, an_sm, an_sv, am_sn, am_sm_e, am_sm_n, am_sv, ai_sn, ai_sm, ai_sv_e, ai_sv_n, reduceIte, or_false, false_or, or_true, true_or, or_self, and_true, true_and, and_false, false_and, not_true_eq_false, not_false_eq_true, n1]
  | false =>
    have t' : TKc T σ (dcL n ++ v) := t
    obtain ⟨x, u, d1, d2, d3⟩ := dc_hd (show n < 1000 by omega)
    have r1 := readTok_no (show 7 < 9 by decide) h t' (by
      rw [(value_C (show n < 1000 by omega) hv h t').2, List.take_append_of_le_length (Nat.le_refl _), List.take_of_length_le (Nat.le_refl _), d1]
      intro z
      have := (List.cons.inj (z : x :: u = [45])).1
      omega)
    obtain ⟨σ', n1, n2, n3⟩ := readNum_C (show n < 1000 by omega) (Nat.zero_le _) (show n ≤ 9999 by omega) (by decide) hv h t'
    refine ⟨σ', nI n, ?_, n2, n3⟩
    unfold f_X5_readStart; rw [r1]; rw [show (9999 : Int32) = nI 9999 from rfl, nz0]; simp (disch := omega) only [↓bnd_s, ↓bnd2_s, ↓bnd3_s, ↓bnd4_s, ↓bnd5_s, ↓bndR_l, ↓bndR_r, ↓bndX_l, ↓bndX_r, ↓bndQ_s, ↓bndQ2_s, bndQ_s, bndQ2_s, bnd_s, bnd2_s, bnd3_s, bnd4_s, bnd5_s, bndR_l, bndR_r, bndX_l, bndX_r, nq_lt, nq_le, nq_inj, nq_add, nq_mul, nq_sub, nq_div, nq_neg1, nq_clamp, nq_ne1, nq_le1, ne1_lt, n1_lt0, n1_lt, n1_ne, nz0, nz1, nz2, nz3, nz4, nz5, nz6, nz8, nz10, nz31, nz32, nz50, nz400, nz800, nz3200, nz20000, nlt_f, nlt_t, nle_f, nle_t, neq_f, neq_t, gi_si_e, gi_si_n, gp_sp_e, gp_sp_n, gr_sr_e, gr_sr_n, gi_sp, gi_sr, gp_si, gp_sr, gr_si, gr_sp, upd_e, upd_n, un_e, un_n, an_sn_e, an_sn_n, an_sm, an_sv, am_sn, am_sm_e, am_sm_n, am_sv, ai_sn, ai_sm, ai_sv_e, ai_sv_n, reduceIte, or_false, false_or, or_true, true_or, or_self, and_true, true_and, and_false, false_and, not_true_eq_false, not_false_eq_true, n1]
theorem step_C {c kd n : Nat} (h6 : kd < 6) (hk : gp σ (8 * c) = kd) (hn : n ≤ 999) {v : List Nat} (hv : nod v) (h : TXc T σ) (t : TKc T σ (sk (spT kd n v))) : ∃ (σ' : St) (p : Nat), p ≤ 999 ∧ f_X5_readStep c σ = some (nI 1, si σ' (8 * c + 3) (nI p)) ∧ TKc T σ' (sk v) ∧ tC σ σ' := by
  have ks := (kStp_eq kd h6).1
  unfold spT at t
  by_cases k0 : kd = 0
  · rw [if_pos k0] at t
    refine ⟨σ, 0, by omega, ?_, t, tC.refl _⟩
    unfold f_X5_readStep; rw [hk, k0, show kStp 0 = nI 0 from rfl]; simp (disch := omega) only [↓bnd_s, ↓bnd2_s, ↓bnd3_s, ↓bnd4_s, ↓bnd5_s, ↓bndR_l, ↓bndR_r, ↓bndX_l, ↓bndX_r, ↓bndQ_s, ↓bndQ2_s, bndQ_s, bndQ2_s, bnd_s, bnd2_s, bnd3_s, bnd4_s, bnd5_s, bndR_l, bndR_r, bndX_l, bndX_r, nq_lt, nq_le, nq_inj, nq_add, nq_mul, nq_sub, nq_div, nq_neg1, nq_clamp, nq_ne1, nq_le1, ne1_lt, n1_lt0, n1_lt, n1_ne, nz0, nz1, nz2, nz3, nz4, nz5, nz6, nz8, nz10, nz31, nz32, nz50, nz400, nz800, nz3200, nz20000, nlt_f, nlt_t, nle_f, nle_t, neq_f, neq_t, gi_si_e, gi_si_n, gp_sp_e, gp_sp_n, gr_sr_e, gr_sr_n, gi_sp, gi_sr, gp_si, gp_sr, gr_si, gr_sp, upd_e, upd_n, un_e, un_n, an_sn_e, an_sn_n, an_sm, an_sv, am_sn, am_sm_e, am_sm_n, am_sv, ai_sn, ai_sm, ai_sv_e, ai_sv_n, reduceIte, or_false, false_or, or_true, true_or, or_self, and_true, true_and, and_false, false_and, not_true_eq_false, not_false_eq_true]
  · rw [if_neg k0, sk_b, sk_dc (by omega)] at t
    have ks' : ¬ kStp kd = nI 0 := fun q => k0 (ks.mp q)
    obtain ⟨σ', n1, n2, n3⟩ := readNum_C (show n < 1000 by omega) (Nat.zero_le _) hn (by decide) hv h t
    refine ⟨σ', n, hn, ?_, n2, n3⟩
    unfold f_X5_readStep; rw [hk, show (999 : Int32) = nI 999 from rfl, nz0]; simp (disch := omega) only [↓bnd_s, ↓bnd2_s, ↓bnd3_s, ↓bnd4_s, ↓bnd5_s, ↓bndR_l, ↓bndR_r, ↓bndX_l, ↓bndX_r, ↓bndQ_s, ↓bndQ2_s, bndQ_s, bndQ2_s, bnd_s, bnd2_s, bnd3_s, bnd4_s, bnd5_s, bndR_l, bndR_r, bndX_l, bndX_r, nq_lt, nq_le, nq_inj, nq_add, nq_mul, nq_sub, nq_div, nq_neg1, nq_clamp, nq_ne1, nq_le1, ne1_lt, n1_lt0, n1_lt, n1_ne, nz0, nz1, nz2, nz3, nz4, nz5, nz6, nz8, nz10, nz31, nz32, nz50, nz400, nz800, nz3200, nz20000, nlt_f, nlt_t, nle_f, nle_t, neq_f, neq_t, gi_si_e, gi_si_n, gp_sp_e, gp_sp_n, gr_sr_e, gr_sr_n, gi_sp, gi_sr, gp_si, gp_sr, gr_si, gr_sp, upd_e, upd_n, un_e, un_n, an_sn_e, an_sn_n, an_sm, an_sv, am_sn, am_sm_e, am_sm_n, am_sv, ai_sn, ai_sm, ai_sv_e, ai_sv_n, reduceIte, or_false, false_or, or_true, true_or, or_self, and_true, true_and, and_false, false_and, not_true_eq_false, not_false_eq_true, ks', n1]
theorem len_C {c kd n : Nat} (h6 : kd < 6) (hk : gp σ (8 * c) = kd) (hn1 : 1 ≤ n) (hn : n ≤ 99) {v : List Nat} (hv : nod v) (h : TXc T σ) (t : TKc T σ (sk (lnT kd n v))) : ∃ (σ' : St) (p : Nat), (kd = 5 → 1 ≤ p ∧ p ≤ 99) ∧ f_X5_readLength c σ = some (nI 1, si σ' (8 * c + 4) (nI p)) ∧ TKc T σ' (sk v) ∧ tC σ σ' := by
  have ks := (kStp_eq kd h6).2
  unfold lnT at t
  by_cases k0 : kd = 5
  · rw [if_pos k0, sk_b, sk_dc (by omega)] at t
    have ks' : ¬ kLen kd = nI 0 := fun q => (ks.mp q) k0
    obtain ⟨σ', n1, n2, n3⟩ := readNum_C (show n < 1000 by omega) hn1 hn (by decide) hv h t
    refine ⟨σ', n, fun _ => ⟨hn1, hn⟩, ?_, n2, n3⟩
    unfold f_X5_readLength; rw [hk, show (99 : Int32) = nI 99 from rfl, nz1]; simp (disch := omega) only [↓bnd_s, ↓bnd2_s, ↓bnd3_s, ↓bnd4_s, ↓bnd5_s, ↓bndR_l, ↓bndR_r, ↓bndX_l, ↓bndX_r, ↓bndQ_s, ↓bndQ2_s, bndQ_s, bndQ2_s, bnd_s, bnd2_s, bnd3_s, bnd4_s, bnd5_s, bndR_l, bndR_r, bndX_l, bndX_r, nq_lt, nq_le, nq_inj, nq_add, nq_mul, nq_sub, nq_div, nq_neg1, nq_clamp, nq_ne1, nq_le1, ne1_lt, n1_lt0, n1_lt, n1_ne, nz0, nz1, nz2, nz3, nz4, nz5, nz6, nz8, nz10, nz31, nz32, nz50, nz400, nz800, nz3200, nz20000, nlt_f, nlt_t, nle_f, nle_t, neq_f, neq_t, gi_si_e, gi_si_n, gp_sp_e, gp_sp_n, gr_sr_e, gr_sr_n, gi_sp, gi_sr, gp_si, gp_sr, gr_si, gr_sp, upd_e, upd_n, un_e, un_n, an_sn_e, an_sn_n, an_sm, an_sv, am_sn, am_sm_e, am_sm_n, am_sv, ai_sn, ai_sm, ai_sv_e, ai_sv_n, reduceIte, or_false, false_or, or_true, true_or, or_self, and_true, true_and, and_false, false_and, not_true_eq_false, not_false_eq_true, ks', n1]
  · rw [if_neg k0] at t
    refine ⟨σ, 0, fun z => absurd z k0, ?_, t, tC.refl _⟩
    unfold f_X5_readLength; rw [hk]; simp (disch := omega) only [↓bnd_s, ↓bnd2_s, ↓bnd3_s, ↓bnd4_s, ↓bnd5_s, ↓bndR_l, ↓bndR_r, ↓bndX_l, ↓bndX_r, ↓bndQ_s, ↓bndQ2_s, bndQ_s, bndQ2_s, bnd_s, bnd2_s, bnd3_s, bnd4_s, bnd5_s, bndR_l, bndR_r, bndX_l, bndX_r, nq_lt, nq_le, nq_inj, nq_add, nq_mul, nq_sub, nq_div, nq_neg1, nq_clamp, nq_ne1, nq_le1, ne1_lt, n1_lt0, n1_lt, n1_ne, nz0, nz1, nz2, nz3, nz4, nz5, nz6, nz8, nz10, nz31, nz32, nz50, nz400, nz800, nz3200, nz20000, nlt_f, nlt_t, nle_f, nle_t, neq_f, neq_t, gi_si_e, gi_si_n, gp_sp_e, gp_sp_n, gr_sr_e, gr_sr_n, gi_sp, gi_sr, gp_si, gp_sr, gr_si, gr_sp, upd_e, upd_n, un_e, un_n, an_sn_e, an_sn_n, an_sm, an_sv, am_sn, am_sm_e, am_sm_n, am_sv, ai_sn, ai_sm, ai_sv_e, ai_sv_n, reduceIte, or_false, false_or, or_true, true_or, or_self, and_true, true_and, and_false, false_and, not_true_eq_false, not_false_eq_true, ks.mpr k0]
theorem div_C {c n : Nat} (hn : n ≤ 99) {v : List Nat} (h : TXc T σ) (t : TKc T σ (sk (mdT n v))) : ∃ (σ' : St) (p : Nat), p ≤ 99 ∧ f_X5_readDivisor c σ = some (nI 1, si σ' (8 * c + 5) (nI p)) ∧ TKc T σ' (59 :: v) ∧ tC σ σ' := by
  unfold mdT at t
  by_cases k0 : n = 0
  · rw [if_pos k0, sk_n (by decide)] at t
    have r1 := readTok_no (show 8 < 9 by decide) h t (by
      rw [show tk (59 :: v) = 1 from rfl]
      intro z
      exact absurd (List.cons.inj (z : [59] = 109 :: [111, 100])).1 (by decide))
    refine ⟨σ, 0, by omega, ?_, t, tC.refl _⟩
    unfold f_X5_readDivisor; rw [r1]; simp (disch := omega) only [↓bnd_s, ↓bnd2_s, ↓bnd3_s, ↓bnd4_s, ↓bnd5_s, ↓bndR_l, ↓bndR_r, ↓bndX_l, ↓bndX_r, ↓bndQ_s, ↓bndQ2_s, bndQ_s, bndQ2_s, bnd_s, bnd2_s, bnd3_s, bnd4_s, bnd5_s, bndR_l, bndR_r, bndX_l, bndX_r, nq_lt, nq_le, nq_inj, nq_add, nq_mul, nq_sub, nq_div, nq_neg1, nq_clamp, nq_ne1, nq_le1, ne1_lt, n1_lt0, n1_lt, n1_ne, nz0, nz1, nz2, nz3, nz4, nz5, nz6, nz8, nz10, nz31, nz32, nz50, nz400, nz800, nz3200, nz20000, nlt_f, nlt_t, nle_f, nle_t, neq_f, neq_t, gi_si_e, gi_si_n, gp_sp_e, gp_sp_n, gr_sr_e, gr_sr_n, gi_sp, gi_sr, gp_si, gp_sr, gr_si, gr_sp, upd_e, upd_n, un_e, un_n, an_sn_e, an_sn_n, an_sm, an_sv, am_sn, am_sm_e, am_sm_n, am_sv, ai_sn, ai_sm, ai_sv_e, ai_sv_n, reduceIte, or_false, false_or, or_true, true_or, or_self, and_true, true_and, and_false, false_and, not_true_eq_false, not_false_eq_true]
  · rw [if_neg k0, sk_b, sk_wd (by decide)] at t
    obtain ⟨σ1, r1, r2, r3⟩ := readTok_yes (show 8 < 9 by decide) h t (tk_wd (Or.inr rfl) _)
    rw [sk_b, sk_dc (by omega)] at r2
    obtain ⟨σ', n1, n2, n3⟩ := readNum_C (show n < 1000 by omega) (show 1 ≤ n by omega) hn (by decide) (Or.inr ⟨59, v, rfl, by decide⟩) (h.tr r3) r2
    rw [sk_n (by decide)] at n2
    refine ⟨σ', n, hn, ?_, n2, r3.trans n3⟩
    unfold f_X5_readDivisor; rw [r1]; rw [show (99 : Int32) = nI 99 from rfl, nz1]; simp (disch := omega) only [↓bnd_s, ↓bnd2_s, ↓bnd3_s, ↓bnd4_s, ↓bnd5_s, ↓bndR_l, ↓bndR_r, ↓bndX_l, ↓bndX_r, ↓bndQ_s, ↓bndQ2_s, bndQ_s, bndQ2_s, bnd_s, bnd2_s, bnd3_s, bnd4_s, bnd5_s, bndR_l, bndR_r, bndX_l, bndX_r, nq_lt, nq_le, nq_inj, nq_add, nq_mul, nq_sub, nq_div, nq_neg1, nq_clamp, nq_ne1, nq_le1, ne1_lt, n1_lt0, n1_lt, n1_ne, nz0, nz1, nz2, nz3, nz4, nz5, nz6, nz8, nz10, nz31, nz32, nz50, nz400, nz800, nz3200, nz20000, nlt_f, nlt_t, nle_f, nle_t, neq_f, neq_t, gi_si_e, gi_si_n, gp_sp_e, gp_sp_n, gr_sr_e, gr_sr_n, gi_sp, gi_sr, gp_si, gp_sr, gr_si, gr_sp, upd_e, upd_n, un_e, un_n, an_sn_e, an_sn_n, an_sm, an_sv, am_sn, am_sm_e, am_sm_n, am_sv, ai_sn, ai_sm, ai_sv_e, ai_sv_n, reduceIte, or_false, false_or, or_true, true_or, or_self, and_true, true_and, and_false, false_and, not_true_eq_false, not_false_eq_true, n1]
/-- a run that can be laid -/
def RunC (n cnt : Nat) (σ : St) : Prop := gp σ (8 * (64 + n)) < 6 ∧ gi σ (8 * (64 + n) + 1) = nI cnt ∧ (∃ c, c ≤ 999 ∧ gi σ (8 * (64 + n) + 3) = nI c) ∧ (gp σ (8 * (64 + n)) = 5 → ∃ c, 1 ≤ c ∧ c ≤ 99 ∧ gi σ (8 * (64 + n) + 4) = nI c) ∧ ∃ p, p ≤ 99 ∧ gi σ (8 * (64 + n) + 5) = nI p
theorem run_C {n : Nat} {q : RN} (hq : okR q) {v : List Nat} (h : TXc T σ) (t : TKc T σ (rnT q v)) : ∃ σ', f_X5_readRun (64 + n) σ = some (nI 1, σ') ∧ TXc T σ' ∧ TKc T σ' (sk v) ∧ rC n σ σ' ∧ RunC n q.2.1 σ' := by
  obtain ⟨kd, cnt, ng, st, sq, ln, md⟩ := q
  obtain ⟨h6, ⟨c1, c2⟩, hst, hsq, ⟨l1, l2⟩, hmd⟩ := hq
  obtain ⟨σ1, a1, a2, a3⟩ := kind_C (c := 64 + n) h6 h t
  rw [sk_dc (by have : cnt ≤ 400 := c2; omega)] at a2
  have H1 : TXc T (sp σ1 (8 * (64 + n)) kd) := (h.tr a3).spk _ _
  obtain ⟨σ2, b1, b2, b3⟩ := cards_C (c := 64 + n) c1 c2 H1 (a2.spk _ _)
  have H2 : TXc T (si σ2 (8 * (64 + n) + 1) (nI cnt)) := (H1.tr b3).fld (by omega) _
  have e2 : sk (ngT ng (dcL st ++ spT kd sq (lnT kd ln (mdT md v)))) = ngT ng (dcL st ++ spT kd sq (lnT kd ln (mdT md v))) := by
    cases ng with
    | true => exact sk_n (by decide)
    | false => exact sk_dc (by have : st ≤ 999 := hst; omega) _
  have b2' : TKc T σ2 (sk (ngT ng (dcL st ++ spT kd sq (lnT kd ln (mdT md v))))) := b2
  rw [e2] at b2'
  obtain ⟨σ3, x, d1, d2, d3⟩ := start_C (c := 64 + n) ng hst (nod_sp kd sq ln md v) H2 (b2'.fld (by omega) _)
  have H3 : TXc T (si σ3 (8 * (64 + n) + 2) x) := (H2.tr d3).fld (by omega) _
  have g3 : gp (si σ3 (8 * (64 + n) + 2) x) (8 * (64 + n)) = kd := by
    show gp σ3 (8 * (64 + n)) = kd
    rw [d3.2.1]
    show gp σ2 (8 * (64 + n)) = kd
    rw [b3.2.1]
    exact gp_sp_e _ _ rfl
  obtain ⟨σ4, y, y1, e1, e3, e4⟩ := step_C (c := 64 + n) h6 g3 hsq (nod_ln kd ln md v) H3 (d2.fld (by omega) _)
  have H4 : TXc T (si σ4 (8 * (64 + n) + 3) (nI y)) := (H3.tr e4).fld (by omega) _
  have g4 : gp (si σ4 (8 * (64 + n) + 3) (nI y)) (8 * (64 + n)) = kd := (e4.2.1 _).trans g3
  obtain ⟨σ5, z, z1, f1, f2, f3⟩ := len_C (c := 64 + n) h6 g4 l1 l2 (nod_md md v) H4 (e3.fld (by omega) _)
  have H5 : TXc T (si σ5 (8 * (64 + n) + 4) (nI z)) := (H4.tr f3).fld (by omega) _
  have g5 : gp (si σ5 (8 * (64 + n) + 4) (nI z)) (8 * (64 + n)) = kd := (f3.2.1 _).trans g4
  obtain ⟨σ6, u, u1, i1, i2, i3⟩ := div_C (c := 64 + n) hmd H5 (f2.fld (by omega) _)
  have H6 : TXc T (si σ6 (8 * (64 + n) + 5) (nI u)) := (H5.tr i3).fld (by omega) _
  have i2' : TKc T (si σ6 (8 * (64 + n) + 5) (nI u)) (wd 6 ++ v) := i2.fld (by omega) _
  obtain ⟨σ7, j1, j2, j3⟩ := readTok_yes (show 6 < 9 by decide) H6 i2' rfl
  refine ⟨σ7, rr7 a1 b1 d1 e1 f1 i1 j1, H6.tr j3, j2, ?_, ?_⟩
  · exact ((a3.r n).trans (rC.spk n _ _)).trans (((b3.r n).trans (rC.fld n _ (show 1 < 8 by decide) _)).trans (((d3.r n).trans (rC.fld n _ (show 2 < 8 by decide) _)).trans (((e4.r n).trans (rC.fld n _ (show 3 < 8 by decide) _)).trans (((f3.r n).trans (rC.fld n _ (show 4 < 8 by decide) _)).trans (((i3.r n).trans (rC.fld n _ (show 5 < 8 by decide) _)).trans (j3.r n))))))
  · have k7 : gp σ7 (8 * (64 + n)) = kd := (j3.2.1 _).trans ((i3.2.1 _).trans g5)
    have v5 : gi σ7 (8 * (64 + n) + 5) = nI u := (j3.1 _ (by omega) (by omega)).trans (gi_si_e _ _ rfl)
    have v4 : gi σ7 (8 * (64 + n) + 4) = nI z := by
      rw [j3.1 _ (by omega) (by omega), gi_si_n _ _ (by omega), i3.1 _ (by omega) (by omega)]
      exact gi_si_e _ _ rfl
    have v3 : gi σ7 (8 * (64 + n) + 3) = nI y := by
      rw [j3.1 _ (by omega) (by omega), gi_si_n _ _ (by omega), i3.1 _ (by omega) (by omega), gi_si_n _ _ (by omega), f3.1 _ (by omega) (by omega)]
      exact gi_si_e _ _ rfl
    have v1 : gi σ7 (8 * (64 + n) + 1) = nI cnt := by
      rw [j3.1 _ (by omega) (by omega), gi_si_n _ _ (by omega), i3.1 _ (by omega) (by omega), gi_si_n _ _ (by omega), f3.1 _ (by omega) (by omega), gi_si_n _ _ (by omega), e4.1 _ (by omega) (by omega), gi_si_n _ _ (by omega), d3.1 _ (by omega) (by omega)]
      exact gi_si_e _ _ rfl
    exact ⟨by rw [k7]; exact h6, v1, ⟨y, y1, v3⟩, fun q => ⟨z, (z1 (k7.symm.trans q)).1, (z1 (k7.symm.trans q)).2, v4⟩, ⟨u, u1, v5⟩⟩
/-- all runs -/
def rnA : List RN → List Nat
  | [] => []
  | q :: l => rnT q (rnA l)
theorem sk_rnA (l : List RN) (h : ∀ q, q ∈ l → okR q) : sk (rnA l) = rnA l := by
  cases l with
  | nil => rfl
  | cons q l =>
    have := (h q List.mem_cons_self).1
    show sk (wd q.1 ++ _) = wd q.1 ++ _
    exact sk_wd (by omega) _
/-- what the reading of the text changes -/
def tR (σ σ' : St) : Prop := (∀ k, k < 512 → k ≠ 82 → k ≠ 83 → k ≠ 98 → gi σ' k = gi σ k) ∧ (∀ k, k < 512 → gp σ' k = gp σ k) ∧ ∀ j, gr σ' j = gr σ j
theorem tR.refl (σ : St) : tR σ σ := ⟨fun _ _ _ _ _ => rfl, fun _ _ => rfl, fun _ => rfl⟩
theorem tR.trans {σ σ' σ2 : St} (h : tR σ σ') (h2 : tR σ' σ2) : tR σ σ2 := ⟨fun k a b c d => (h2.1 k a b c d).trans (h.1 k a b c d), fun k a => (h2.2.1 k a).trans (h.2.1 k a), fun j => (h2.2.2 j).trans (h.2.2 j)⟩
theorem rC.R {n : Nat} {σ σ' : St} (h : rC n σ σ') : tR σ σ' := ⟨fun k a b c _ => h.1 k b c (by omega), fun k a => h.2.1 k (by omega), h.2.2⟩
theorem tC.R {σ σ' : St} (h : tC σ σ') : tR σ σ' := ⟨fun k _ b c _ => h.1 k b c, fun k _ => h.2.1 k, h.2.2⟩
theorem tR.s98 (σ : St) (v : Int32) : tR σ (si σ 98 v) := ⟨fun k _ _ _ d => gi_si_n _ _ d, fun _ _ => rfl, fun _ => rfl⟩
theorem RunC.fr {n cnt : Nat} {σ σ' : St} (h : RunC n cnt σ) (h1 : ∀ k, 8 * (64 + n) ≤ k → k < 8 * (64 + n) + 8 → gi σ' k = gi σ k) (h2 : gp σ' (8 * (64 + n)) = gp σ (8 * (64 + n))) : RunC n cnt σ' := by
  obtain ⟨a, b, ⟨c, c1, c2⟩, d, ⟨e, e1, e2⟩⟩ := h
  refine ⟨by rw [h2]; exact a, by rw [h1 _ (by omega) (by omega)]; exact b, ⟨c, c1, by rw [h1 _ (by omega) (by omega)]; exact c2⟩, fun q => ?_, ⟨e, e1, by rw [h1 _ (by omega) (by omega)]; exact e2⟩⟩
  obtain ⟨g, g1, g2, g3⟩ := d (h2.symm.trans q)
  exact ⟨g, g1, g2, by rw [h1 _ (by omega) (by omega)]; exact g3⟩
theorem runs_R : ∀ (l : List RN) {fu i : Nat} {σ : St}, (∀ q, q ∈ l → okR q) → TXc T σ → TKc T σ (rnA l) → gi σ 98 = nI i → i + l.length ≤ 50 → l.length < fu →
    ∃ σ', f_X5_readText_L12 fu σ = some (.inr σ') ∧ TXc T σ' ∧ tR σ σ' ∧ gi σ' 98 = nI (i + l.length) ∧ (∀ k q, l[k]? = some q → RunC (i + k) q.2.1 σ') ∧ (∀ k, k < 8 * (64 + i) → 512 ≤ k → gi σ' k = gi σ k) ∧ ∀ k, k < 8 * (64 + i) → gp σ' k = gp σ k := by
  intro l
  induction l with
  | nil =>
    intro fu i σ hl h t h98 hi hf
    obtain ⟨fu, rfl⟩ : ∃ f, fu = f + 1 := ⟨fu - 1, by omega⟩
    obtain ⟨p, t1, t2, t3⟩ := t
    have e : p = T.length := t1.nil
    have hT := h.l
    refine ⟨σ, ?_, h, tR.refl _, h98, fun k q hq => (by rw [List.getElem?_nil] at hq; cases hq), fun _ _ _ => rfl, fun _ _ => rfl⟩
    unfold f_X5_readText_L12 f_X9_isAtEnd; simp (disch := omega) only [↓bnd_s, ↓bnd2_s, ↓bnd3_s, ↓bnd4_s, ↓bnd5_s, ↓bndR_l, ↓bndR_r, ↓bndX_l, ↓bndX_r, ↓bndQ_s, ↓bndQ2_s, bndQ_s, bndQ2_s, bnd_s, bnd2_s, bnd3_s, bnd4_s, bnd5_s, bndR_l, bndR_r, bndX_l, bndX_r, nq_lt, nq_le, nq_inj, nq_add, nq_mul, nq_sub, nq_div, nq_neg1, nq_clamp, nq_ne1, nq_le1, ne1_lt, n1_lt0, n1_lt, n1_ne, nz0, nz1, nz2, nz3, nz4, nz5, nz6, nz8, nz10, nz31, nz32, nz50, nz400, nz800, nz3200, nz20000, nlt_f, nlt_t, nle_f, nle_t, neq_f, neq_t, gi_si_e, gi_si_n, gp_sp_e, gp_sp_n, gr_sr_e, gr_sr_n, gi_sp, gi_sr, gp_si, gp_sr, gr_si, gr_sp, upd_e, upd_n, un_e, un_n, an_sn_e, an_sn_n, an_sm, an_sv, am_sn, am_sm_e, am_sm_n, am_sv, ai_sn, ai_sm, ai_sv_e, ai_sv_n, reduceIte, or_false, false_or, or_true, true_or, or_self, and_true, true_and, and_false, false_and, not_true_eq_false, not_false_eq_true, h.cL, t2, e]
  | cons q l ih =>
    intro fu i σ hl h t h98 hi hf
    rw [List.length_cons] at hi hf
    obtain ⟨fu, rfl⟩ : ∃ f, fu = f + 1 := ⟨fu - 1, by omega⟩
    have hq := hl q List.mem_cons_self
    have hT := h.l
    have hne : ∃ x u, rnT q (rnA l) = x :: u := by
      obtain ⟨x, u, d1, d2⟩ := wd_hd q.1 (by have := hq.1; omega)
      exact ⟨x, _, by unfold rnT; rw [d1]; rfl⟩
    have hend : f_X9_isAtEnd σ = some (nI 0) := by
      obtain ⟨x, u, d1⟩ := hne
      obtain ⟨p, t1, t2, t3⟩ := t
      have t1' : Sf T p (rnT q (rnA l)) := t1
      rw [d1] at t1'
      have := t1'.hd.1
      unfold f_X9_isAtEnd; simp (disch := omega) only [↓bnd_s, ↓bnd2_s, ↓bnd3_s, ↓bnd4_s, ↓bnd5_s, ↓bndR_l, ↓bndR_r, ↓bndX_l, ↓bndX_r, ↓bndQ_s, ↓bndQ2_s, bndQ_s, bndQ2_s, bnd_s, bnd2_s, bnd3_s, bnd4_s, bnd5_s, bndR_l, bndR_r, bndX_l, bndX_r, nq_lt, nq_le, nq_inj, nq_add, nq_mul, nq_sub, nq_div, nq_neg1, nq_clamp, nq_ne1, nq_le1, ne1_lt, n1_lt0, n1_lt, n1_ne, nz0, nz1, nz2, nz3, nz4, nz5, nz6, nz8, nz10, nz31, nz32, nz50, nz400, nz800, nz3200, nz20000, nlt_f, nlt_t, nle_f, nle_t, neq_f, neq_t, gi_si_e, gi_si_n, gp_sp_e, gp_sp_n, gr_sr_e, gr_sr_n, gi_sp, gi_sr, gp_si, gp_sr, gr_si, gr_sp, upd_e, upd_n, un_e, un_n, an_sn_e, an_sn_n, an_sm, an_sv, am_sn, am_sm_e, am_sm_n, am_sv, ai_sn, ai_sm, ai_sv_e, ai_sv_n, reduceIte, or_false, false_or, or_true, true_or, or_self, and_true, true_and, and_false, false_and, not_true_eq_false, not_false_eq_true, h.cL, t2]
    obtain ⟨σ1, r1, r2, r3, r4, r5⟩ := run_C (n := i) hq h t
    rw [sk_rnA l fun q hq => hl q (List.mem_cons_of_mem _ hq)] at r3
    have h98' : gi σ1 98 = nI i := (r4.1 98 (by decide) (by decide) (Or.inl (by omega))).trans h98
    have H2 : TXc T (si σ1 98 (nI (i + 1))) := ⟨r2.1, r2.2.1, by rw [gi_si_n _ _ (by decide)]; exact r2.2.2.1, r2.2.2.2⟩
    obtain ⟨σ', s1, s2, s3, s4, s5, s6, s7⟩ := ih (fu := fu) (i := i + 1) (σ := si σ1 98 (nI (i + 1))) (fun q hq => hl q (List.mem_cons_of_mem _ hq)) H2 (r3.tr (gi_si_n _ _ (by decide)) (gi_si_n _ _ (by decide))) (gi_si_e _ _ rfl) (by omega) (by omega)
    refine ⟨σ', ?_, s2, (r4.R.trans (tR.s98 _ _)).trans s3, by rw [s4, List.length_cons, show i + 1 + l.length = i + (l.length + 1) by omega], fun k q' hk => ?_, fun k k1 k2 => ?_, fun k k1 => ?_⟩
    · unfold f_X5_readText_L12
      rw [hend, bnd_s]
      simp (disch := omega) only [↓bnd_s, ↓bnd2_s, ↓bnd3_s, ↓bnd4_s, ↓bnd5_s, ↓bndR_l, ↓bndR_r, ↓bndX_l, ↓bndX_r, ↓bndQ_s, ↓bndQ2_s, bndQ_s, bndQ2_s, bnd_s, bnd2_s, bnd3_s, bnd4_s, bnd5_s, bndR_l, bndR_r, bndX_l, bndX_r, nq_lt, nq_le, nq_inj, nq_add, nq_mul, nq_sub, nq_div, nq_neg1, nq_clamp, nq_ne1, nq_le1, ne1_lt, n1_lt0, n1_lt, n1_ne, nz0, nz1, nz2, nz3, nz4, nz5, nz6, nz8, nz10, nz31, nz32, nz50, nz400, nz800, nz3200, nz20000, nlt_f, nlt_t, nle_f, nle_t, neq_f, neq_t, gi_si_e, gi_si_n, gp_sp_e, gp_sp_n, gr_sr_e, gr_sr_n, gi_sp, gi_sr, gp_si, gp_sr, gr_si, gr_sp, upd_e, upd_n, un_e, un_n, an_sn_e, an_sn_n, an_sm, an_sv, am_sn, am_sm_e, am_sm_n, am_sv, ai_sn, ai_sm, ai_sv_e, ai_sv_n, reduceIte, or_false, false_or, or_true, true_or, or_self, and_true, true_and, and_false, false_and, not_true_eq_false, not_false_eq_true, h98, r1, h98']
      exact s1
    · match k, hk with
      | 0, hk =>
        have : q = q' := Option.some.inj hk
        subst this
        exact r5.fr (fun k k1 k2 => by rw [s6 k (by omega) (by omega), gi_si_n _ _ (by omega)]) (by rw [s7 _ (by omega)]; rfl)
      | k + 1, hk =>
        have := s5 k q' (by rw [List.getElem?_cons_succ] at hk; exact hk)
        rw [show i + 1 + k = i + (k + 1) by omega] at this
        exact this
    · rw [s6 k (by omega) k2, gi_si_n _ _ (by omega)]
      exact r4.1 k (by omega) (by omega) (Or.inl k1)
    · rw [s7 k (by omega)]
      show gp σ1 k = gp σ k
      exact r4.2.1 k (by omega)
theorem text_C {l : List RN} (hl : ∀ q, q ∈ l → okR q) (hl5 : l.length ≤ 50) (h : TXc (rnA l) σ) : ∃ σ', f_X5_readText σ = some (-nI 1, σ') ∧ TXc (rnA l) σ' ∧ tR σ σ' ∧ gi σ' 98 = nI l.length ∧ ∀ k q, l[k]? = some q → RunC k q.2.1 σ' := by
  have H1 : TXc (rnA l) (si (si σ 98 (nI 0)) 83 (nI 0)) := ⟨h.1, h.2.1, by simp (disch := omega) only [gi_si_e, gi_si_n, gp_sp_e, gp_sp_n, gr_sr_e, gr_sr_n, gi_sp, gi_sr, gp_si, gp_sr, gr_si, gr_sp, upd_e, upd_n, un_e, un_n, an_sn_e, an_sn_n, an_sm, an_sv, am_sn, am_sm_e, am_sm_n, am_sv, ai_sn, ai_sm, ai_sv_e, ai_sv_n, reduceIte, or_false, false_or, or_true, true_or, or_self, and_true, true_and, and_false, false_and, not_true_eq_false, not_false_eq_true]; exact h.2.2.1, h.2.2.2⟩
  obtain ⟨σ1, n1, n2, n3⟩ := next_C H1 (p := 0) (gi_si_e _ _ rfl) (Sf.st _)
  rw [sk_rnA l hl] at n2
  obtain ⟨σ', s1, s2, s3, s4, s5, s6, s7⟩ := runs_R l (fu := FU) (i := 0) hl (H1.tr n3) n2 (by rw [n3.1 98 (by decide) (by decide)]; simp (disch := omega) only [gi_si_e, gi_si_n, gp_sp_e, gp_sp_n, gr_sr_e, gr_sr_n, gi_sp, gi_sr, gp_si, gp_sr, gr_si, gr_sp, upd_e, upd_n, un_e, un_n, an_sn_e, an_sn_n, an_sm, an_sv, am_sn, am_sm_e, am_sm_n, am_sv, ai_sn, ai_sm, ai_sv_e, ai_sv_n, reduceIte, or_false, false_or, or_true, true_or, or_self, and_true, true_and, and_false, false_and, not_true_eq_false, not_false_eq_true]) (by omega) (by unfold FU; omega)
  rw [Nat.zero_add] at s4
  refine ⟨σ', ?_, s2, ?_, s4, fun k q hk => by have := s5 k q hk; rw [Nat.zero_add] at this; exact this⟩
  · unfold f_X5_readText f_X9_toFirstToken
    rw [nz0, n1, bnd_s, bnd_s, s1, bndR_r]; rfl
  · exact (((tR.s98 _ _).trans (tC.s83 _ _).R).trans n3.R).trans s3
end RN1
