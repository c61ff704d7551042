def rC (n : Nat) (σ σ' : St) : Prop := (∀ k, k ≠ 82 → k ≠ 83 → (k < 8 * (64 + n) ∨ 8 * (64 + n) + 8 ≤ k) → gi σ' k = gi σ k) ∧ (∀ k, k ≠ 8 * (64 + n) → gp σ' k = gp σ k) ∧ ∀ j, gr σ' j = gr σ j
def rM (n : Nat) (τ τ' : St) : Prop := (∀ k, (k < 13 ∨ 17 < k) → k ≠ 24 → gi τ' k = gi τ k) ∧ (∀ j, (j < 19 ∨ 24 < j) → gr τ' j = gr τ j) ∧ ∀ j k, k ≠ n → gr τ' j k = gr τ j k
def RunR (n : Nat) (σ τ : St) : Prop := gp σ (8 * (64 + n)) < 6 ∧ gr τ 19 n = nI (gp σ (8 * (64 + n))) ∧ (∃ c, 1 ≤ c ∧ c ≤ 400 ∧ gi σ (8 * (64 + n) + 1) = nI c ∧ gr τ 20 n = nI c) ∧ gr τ 21 n = gi σ (8 * (64 + n) + 2) ∧
  (∃ c, c ≤ 999 ∧ gi σ (8 * (64 + n) + 3) = nI c ∧ gr τ 22 n = nI c) ∧ (gp σ (8 * (64 + n)) = 5 → ∃ c, 1 ≤ c ∧ c ≤ 99 ∧ gi σ (8 * (64 + n) + 4) = nI c ∧ gr τ 23 n = nI c) ∧
  (∃ p q, ((p = 0 ∧ q = 1) ∨ (p = q ∧ 1 ≤ p ∧ p ≤ 99)) ∧ gi σ (8 * (64 + n) + 5) = nI p ∧ gr τ 24 n = nI q)
theorem rC.refl (n : Nat) (σ : St) : rC n σ σ := ⟨fun _ _ _ _ => rfl, fun _ _ => rfl, fun _ => rfl⟩
theorem rC.trans {n : Nat} {σ σ' σ2 : St} (h : rC n σ σ') (h2 : rC n σ' σ2) : rC n σ σ2 := ⟨fun k a b c => (h2.1 k a b c).trans (h.1 k a b c), fun k a => (h2.2.1 k a).trans (h.2.1 k a), fun j => (h2.2.2 j).trans (h.2.2 j)⟩
theorem tC.r {σ σ' : St} (h : tC σ σ') (n : Nat) : rC n σ σ' := ⟨fun k a b _ => h.1 k a b, fun k _ => h.2.1 k, h.2.2⟩
theorem rC.fld (n : Nat) (σ : St) {u : Nat} (hu : u < 8) (v : Int32) : rC n σ (si σ (8 * (64 + n) + u) v) := ⟨fun k a b c => by simp (disch := omega) only [gi_si_e, gi_si_n, gp_sp_e, gp_sp_n, gr_sr_e, gr_sr_n, gi_sp, gi_sr, gp_si, gp_sr, gr_si, gr_sp, upd_e, upd_n, un_e, un_n, an_sn_e, an_sn_n, an_sm, an_sv, am_sn, am_sm_e, am_sm_n, am_sv, ai_sn, ai_sm, ai_sv_e, ai_sv_n, reduceIte, or_false, false_or, or_true, true_or, or_self, and_true, true_and, and_false, false_and, not_true_eq_false, not_false_eq_true], fun _ _ => rfl, fun _ => rfl⟩
theorem rC.spk (n : Nat) (σ : St) (v : Nat) : rC n σ (sp σ (8 * (64 + n)) v) := ⟨fun k a b c => rfl, fun k a => by simp (disch := omega) only [gi_si_e, gi_si_n, gp_sp_e, gp_sp_n, gr_sr_e, gr_sr_n, gi_sp, gi_sr, gp_si, gp_sr, gr_si, gr_sp, upd_e, upd_n, un_e, un_n, an_sn_e, an_sn_n, an_sm, an_sv, am_sn, am_sm_e, am_sm_n, am_sv, ai_sn, ai_sm, ai_sv_e, ai_sv_n, reduceIte, or_false, false_or, or_true, true_or, or_self, and_true, true_and, and_false, false_and, not_true_eq_false, not_false_eq_true], fun _ => rfl⟩
theorem rM.trans {n : Nat} {τ τ' τ2 : St} (h : rM n τ τ') (h2 : rM n τ' τ2) : rM n τ τ2 := ⟨fun k a b => (h2.1 k a b).trans (h.1 k a b), fun j a => (h2.2.1 j a).trans (h.2.1 j a), fun j k a => (h2.2.2 j k a).trans (h.2.2 j k a)⟩
theorem tW.r {τ τ' : St} (h : tW τ τ') (n : Nat) : rM n τ τ' := ⟨fun k a _ => h.1 k a, fun j _ => h.2 j, fun j k _ => by rw [h.2]⟩
theorem rM.fin (n : Nat) (τ : St) (x0 x1 x2 x3 x4 x5 y : Int32) : rM n τ (si (sr (sr (sr (sr (sr (sr τ 19 (upd (gr τ 19) n x0)) 20 (upd (gr τ 20) n x1)) 21 (upd (gr τ 21) n x2)) 22 (upd (gr τ 22) n x3)) 23 (upd (gr τ 23) n x4)) 24 (upd (gr τ 24) n x5)) 24 y) := by
  refine ⟨fun k a b => by simp (disch := omega) only [gi_si_e, gi_si_n, gp_sp_e, gp_sp_n, gr_sr_e, gr_sr_n, gi_sp, gi_sr, gp_si, gp_sr, gr_si, gr_sp, upd_e, upd_n, un_e, un_n, an_sn_e, an_sn_n, an_sm, an_sv, am_sn, am_sm_e, am_sm_n, am_sv, ai_sn, ai_sm, ai_sv_e, ai_sv_n, reduceIte, or_false, false_or, or_true, true_or, or_self, and_true, true_and, and_false, false_and, not_true_eq_false, not_false_eq_true], fun j a => by simp (disch := omega) only [gi_si_e, gi_si_n, gp_sp_e, gp_sp_n, gr_sr_e, gr_sr_n, gi_sp, gi_sr, gp_si, gp_sr, gr_si, gr_sp, upd_e, upd_n, un_e, un_n, an_sn_e, an_sn_n, an_sm, an_sv, am_sn, am_sm_e, am_sm_n, am_sv, ai_sn, ai_sm, ai_sv_e, ai_sv_n, reduceIte, or_false, false_or, or_true, true_or, or_self, and_true, true_and, and_false, false_and, not_true_eq_false, not_false_eq_true], fun j k a => ?_⟩
  simp only [gr_si, gr_sr]
  split
  · rename_i e; subst e; rw [upd_n _ _ a]
  · split
    · rename_i e; subst e; rw [upd_n _ _ a]
    · split
      · rename_i e; subst e; rw [upd_n _ _ a]
      · split
        · rename_i e; subst e; rw [upd_n _ _ a]
        · split
          · rename_i e; subst e; rw [upd_n _ _ a]
          · split
            · rename_i e; subst e; rw [upd_n _ _ a]
            · rfl
theorem n10 : ¬ (nI 1 = (0 : Int32)) := by decide +kernel
theorem p00 : nI 0 = (0 : Int32) := rfl
theorem g00 : ¬ ¬ ((0 : Int32) = 0 ∨ (0 : Int32) = 1) := by decide +kernel
theorem g11 : ¬ ¬ ((1 : Int32) = 0 ∨ (1 : Int32) = 1) := by decide +kernel
section RR
variable {σ σ1 σ2 σ3 σ4 σ5 σ6 σ7 : St} {c : Nat}
theorem rr0 (h1 : f_X5_readKind c σ = some (nI 0, σ1)) : f_X5_readRun c σ = some (nI 0, σ1) := by
  unfold f_X5_readRun
  rw [h1, bnd2_s, if_pos p00, bnd2_s, if_neg g00]; rfl
theorem rr1 (h1 : f_X5_readKind c σ = some (nI 1, σ1)) (h2 : f_X5_readCards c σ1 = some (nI 0, σ2)) : f_X5_readRun c σ = some (nI 0, σ2) := by
  unfold f_X5_readRun
  rw [h1, bnd2_s, if_neg n10, h2, bnd2_s, if_pos p00, bnd2_s, if_neg g00]; rfl
theorem rr2 (h1 : f_X5_readKind c σ = some (nI 1, σ1)) (h2 : f_X5_readCards c σ1 = some (nI 1, σ2)) (h3 : f_X5_readStart c σ2 = some (nI 0, σ3)) : f_X5_readRun c σ = some (nI 0, σ3) := by
  unfold f_X5_readRun
  rw [h1, bnd2_s, if_neg n10, h2, bnd2_s, if_neg n10, h3, bnd2_s, if_pos p00, bnd2_s, if_neg g00]; rfl
theorem rr3 (h1 : f_X5_readKind c σ = some (nI 1, σ1)) (h2 : f_X5_readCards c σ1 = some (nI 1, σ2)) (h3 : f_X5_readStart c σ2 = some (nI 1, σ3)) (h4 : f_X5_readStep c σ3 = some (nI 0, σ4)) : f_X5_readRun c σ = some (nI 0, σ4) := by
  unfold f_X5_readRun
  rw [h1, bnd2_s, if_neg n10, h2, bnd2_s, if_neg n10, h3, bnd2_s, if_neg n10, h4, bnd2_s, if_pos p00, bnd2_s, if_neg g00]; rfl
theorem rr4 (h1 : f_X5_readKind c σ = some (nI 1, σ1)) (h2 : f_X5_readCards c σ1 = some (nI 1, σ2)) (h3 : f_X5_readStart c σ2 = some (nI 1, σ3)) (h4 : f_X5_readStep c σ3 = some (nI 1, σ4)) (h5 : f_X5_readLength c σ4 = some (nI 0, σ5)) : f_X5_readRun c σ = some (nI 0, σ5) := by
  unfold f_X5_readRun
  rw [h1, bnd2_s, if_neg n10, h2, bnd2_s, if_neg n10, h3, bnd2_s, if_neg n10, h4, bnd2_s, if_neg n10, h5, bnd2_s, if_pos p00, bnd2_s, if_neg g00]; rfl
theorem rr5 (h1 : f_X5_readKind c σ = some (nI 1, σ1)) (h2 : f_X5_readCards c σ1 = some (nI 1, σ2)) (h3 : f_X5_readStart c σ2 = some (nI 1, σ3)) (h4 : f_X5_readStep c σ3 = some (nI 1, σ4)) (h5 : f_X5_readLength c σ4 = some (nI 1, σ5)) (h6 : f_X5_readDivisor c σ5 = some (nI 0, σ6)) : f_X5_readRun c σ = some (nI 0, σ6) := by
  unfold f_X5_readRun
  rw [h1, bnd2_s, if_neg n10, h2, bnd2_s, if_neg n10, h3, bnd2_s, if_neg n10, h4, bnd2_s, if_neg n10, h5, bnd2_s, if_neg n10, h6, bnd2_s, if_pos p00, bnd2_s, if_neg g00]; rfl
theorem rr6 (h1 : f_X5_readKind c σ = some (nI 1, σ1)) (h2 : f_X5_readCards c σ1 = some (nI 1, σ2)) (h3 : f_X5_readStart c σ2 = some (nI 1, σ3)) (h4 : f_X5_readStep c σ3 = some (nI 1, σ4)) (h5 : f_X5_readLength c σ4 = some (nI 1, σ5)) (h6 : f_X5_readDivisor c σ5 = some (nI 1, σ6)) (h7 : f_X5_readToken 6 σ6 = some (nI 0, σ7)) : f_X5_readRun c σ = some (nI 0, σ7) := by
  unfold f_X5_readRun
  rw [h1, bnd2_s, if_neg n10, h2, bnd2_s, if_neg n10, h3, bnd2_s, if_neg n10, h4, bnd2_s, if_neg n10, h5, bnd2_s, if_neg n10, h6, bnd2_s, if_neg n10, h7, bnd2_s, if_pos p00, bnd2_s, if_neg g00]; rfl
theorem rr7 (h1 : f_X5_readKind c σ = some (nI 1, σ1)) (h2 : f_X5_readCards c σ1 = some (nI 1, σ2)) (h3 : f_X5_readStart c σ2 = some (nI 1, σ3)) (h4 : f_X5_readStep c σ3 = some (nI 1, σ4)) (h5 : f_X5_readLength c σ4 = some (nI 1, σ5)) (h6 : f_X5_readDivisor c σ5 = some (nI 1, σ6)) (h7 : f_X5_readToken 6 σ6 = some (nI 1, σ7)) : f_X5_readRun c σ = some (nI 1, σ7) := by
  unfold f_X5_readRun
  rw [h1, bnd2_s, if_neg n10, h2, bnd2_s, if_neg n10, h3, bnd2_s, if_neg n10, h4, bnd2_s, if_neg n10, h5, bnd2_s, if_neg n10, h6, bnd2_s, if_neg n10, h7, bnd2_s, if_neg n10, bnd2_s, if_neg g11]; rfl
end RR
section TK9
variable {τ τ1 τ2 τ3 τ4 τ5 τ6 τ7 : St} {kd v w p q d : Int32}
def tkStep (kd : Int32) (τ : St) : Option (Int32 × St) := if kd = 0 then some (0, τ) else bnd2 (f_X11_takesNumber 0 999 τ) fun r_22 σ_23 => some (r_22, σ_23)
def tkLen (kd : Int32) (τ : St) : Option (Int32 × St) := if kd = 5 then bnd2 (f_X11_takesNumber 1 99 τ) fun r_30 σ_31 => some (r_30, σ_31) else some (1, τ)
def tkDiv (τ : St) : Option (Int32 × St) := bnd (f_X11_isWord 109 111 100 0 0 τ) fun r_37 => if r_37 = 0 then some (1, τ) else bnd (f_X11_next τ) fun σ_40 => bnd2 (f_X11_takesNumber 1 99 σ_40) fun r_42 σ_43 => some (r_42, σ_43)
theorem tk0 (h1 : f_X11_kindHere τ = some (-1)) (h2 : f_X11_isWrong τ = some τ1) : f_X11_takesRun τ = some τ1 := by
  unfold f_X11_takesRun
  rw [h1, bnd_s, if_pos rfl, h2]; rfl
theorem tk1 (h1 : f_X11_kindHere τ = some kd) (hk : ¬ kd = -1) (h2 : f_X11_next τ = some τ1) (h3 : f_X11_takesNumber 1 400 τ1 = some (v, τ2)) (w2 : ¬ gi τ2 17 = -1) : f_X11_takesRun τ = some τ2 := by
  unfold f_X11_takesRun
  rw [h1, bnd_s, if_neg hk, h2, bnd_s, h3, bnd2_s, if_neg w2, bnd2_s, if_neg w2, bnd2_s, if_neg w2, bnd2_s, if_neg w2, bnd2_s, if_neg w2, bnd_s, if_neg w2]
theorem tk2 (h1 : f_X11_kindHere τ = some kd) (hk : ¬ kd = -1) (h2 : f_X11_next τ = some τ1) (h3 : f_X11_takesNumber 1 400 τ1 = some (v, τ2)) (w2 : gi τ2 17 = -1) (h4 : f_X11_takesStart τ2 = some (w, τ3)) (w3 : ¬ gi τ3 17 = -1) : f_X11_takesRun τ = some τ3 := by
  unfold f_X11_takesRun
  rw [h1, bnd_s, if_neg hk, h2, bnd_s, h3, bnd2_s, if_pos w2, h4, bnd2_s, bnd2_s, if_neg w3, bnd2_s, if_neg w3, bnd2_s, if_neg w3, bnd2_s, if_neg w3, bnd_s, if_neg w3]
theorem tk3 (h1 : f_X11_kindHere τ = some kd) (hk : ¬ kd = -1) (h2 : f_X11_next τ = some τ1) (h3 : f_X11_takesNumber 1 400 τ1 = some (v, τ2)) (w2 : gi τ2 17 = -1) (h4 : f_X11_takesStart τ2 = some (w, τ3)) (w3 : gi τ3 17 = -1) (h5 : tkStep kd τ3 = some (p, τ4)) (w4 : ¬ gi τ4 17 = -1) : f_X11_takesRun τ = some τ4 := by
  unfold tkStep at h5
  unfold f_X11_takesRun
  rw [h1, bnd_s, if_neg hk, h2, bnd_s, h3, bnd2_s, if_pos w2, h4, bnd2_s, bnd2_s, if_pos w3, h5, bnd2_s, if_neg w4, bnd2_s, if_neg w4, bnd2_s, if_neg w4, bnd_s, if_neg w4]
theorem tk4 (h1 : f_X11_kindHere τ = some kd) (hk : ¬ kd = -1) (h2 : f_X11_next τ = some τ1) (h3 : f_X11_takesNumber 1 400 τ1 = some (v, τ2)) (w2 : gi τ2 17 = -1) (h4 : f_X11_takesStart τ2 = some (w, τ3)) (w3 : gi τ3 17 = -1) (h5 : tkStep kd τ3 = some (p, τ4)) (w4 : gi τ4 17 = -1) (h6 : tkLen kd τ4 = some (q, τ5)) (w5 : ¬ gi τ5 17 = -1) : f_X11_takesRun τ = some τ5 := by
  unfold tkStep at h5
  unfold tkLen at h6
  unfold f_X11_takesRun
  rw [h1, bnd_s, if_neg hk, h2, bnd_s, h3, bnd2_s, if_pos w2, h4, bnd2_s, bnd2_s, if_pos w3, h5, bnd2_s, if_pos w4, h6, bnd2_s, if_neg w5, bnd2_s, if_neg w5, bnd_s, if_neg w5]
theorem tk5 (h1 : f_X11_kindHere τ = some kd) (hk : ¬ kd = -1) (h2 : f_X11_next τ = some τ1) (h3 : f_X11_takesNumber 1 400 τ1 = some (v, τ2)) (w2 : gi τ2 17 = -1) (h4 : f_X11_takesStart τ2 = some (w, τ3)) (w3 : gi τ3 17 = -1) (h5 : tkStep kd τ3 = some (p, τ4)) (w4 : gi τ4 17 = -1) (h6 : tkLen kd τ4 = some (q, τ5)) (w5 : gi τ5 17 = -1) (h7 : tkDiv τ5 = some (d, τ6)) (w6 : ¬ gi τ6 17 = -1) : f_X11_takesRun τ = some τ6 := by
  unfold tkStep at h5
  unfold tkLen at h6
  unfold tkDiv at h7
  unfold f_X11_takesRun
  rw [h1, bnd_s, if_neg hk, h2, bnd_s, h3, bnd2_s, if_pos w2, h4, bnd2_s, bnd2_s, if_pos w3, h5, bnd2_s, if_pos w4, h6, bnd2_s, if_pos w5, h7, bnd2_s, if_neg w6, bnd_s, if_neg w6]
theorem tk6 (h1 : f_X11_kindHere τ = some kd) (hk : ¬ kd = -1) (h2 : f_X11_next τ = some τ1) (h3 : f_X11_takesNumber 1 400 τ1 = some (v, τ2)) (w2 : gi τ2 17 = -1) (h4 : f_X11_takesStart τ2 = some (w, τ3)) (w3 : gi τ3 17 = -1) (h5 : tkStep kd τ3 = some (p, τ4)) (w4 : gi τ4 17 = -1) (h6 : tkLen kd τ4 = some (q, τ5)) (w5 : gi τ5 17 = -1) (h7 : tkDiv τ5 = some (d, τ6)) (w6 : gi τ6 17 = -1) (hs : ¬ gi τ6 14 = 3) (h8 : f_X11_isWrong τ6 = some τ7) (w7 : ¬ gi τ7 17 = -1) : f_X11_takesRun τ = some τ7 := by
  unfold tkStep at h5
  unfold tkLen at h6
  unfold tkDiv at h7
  unfold f_X11_takesRun
  rw [h1, bnd_s, if_neg hk, h2, bnd_s, h3, bnd2_s, if_pos w2, h4, bnd2_s, bnd2_s, if_pos w3, h5, bnd2_s, if_pos w4, h6, bnd2_s, if_pos w5, h7, bnd2_s, if_pos w6, if_neg hs, h8, bnd_s, bnd_s, if_neg w7]
theorem tk7 {n : Nat} (hn : n < 80) (h1 : f_X11_kindHere τ = some kd) (hk : ¬ kd = -1) (h2 : f_X11_next τ = some τ1) (h3 : f_X11_takesNumber 1 400 τ1 = some (v, τ2)) (w2 : gi τ2 17 = -1) (h4 : f_X11_takesStart τ2 = some (w, τ3)) (w3 : gi τ3 17 = -1) (h5 : tkStep kd τ3 = some (p, τ4)) (w4 : gi τ4 17 = -1) (h6 : tkLen kd τ4 = some (q, τ5)) (w5 : gi τ5 17 = -1) (h7 : tkDiv τ5 = some (d, τ6)) (w6 : gi τ6 17 = -1) (hs : gi τ6 14 = 3) (h8 : f_X11_next τ6 = some τ7) (hr : gi τ7 24 = nI n) :
    f_X11_takesRun τ = some (si (sr (sr (sr (sr (sr (sr τ7 19 (upd (gr τ7 19) n kd)) 20 (upd (gr τ7 20) n v)) 21 (upd (gr τ7 21) n w)) 22 (upd (gr τ7 22) n p)) 23 (upd (gr τ7 23) n q)) 24 (upd (gr τ7 24) n d)) 24 (nI (n + 1))) := by
  unfold tkStep at h5
  unfold tkLen at h6
  unfold tkDiv at h7
  unfold f_X11_takesRun
  rw [h1, bnd_s, if_neg hk, h2, bnd_s, h3, bnd2_s, if_pos w2, h4, bnd2_s, bnd2_s, if_pos w3, h5, bnd2_s, if_pos w4, h6, bnd2_s, if_pos w5, h7, bnd2_s, if_pos w6, if_pos hs, bnd_s, if_pos w6, h8, bnd_s]
  simp (disch := omega) only [↓bnd_s, ↓bnd2_s, ↓bnd3_s, ↓bnd4_s, ↓bnd5_s, ↓bndR_l, ↓bndR_r, ↓bndX_l, ↓bndX_r, bnd_s, bnd2_s, bnd3_s, bnd4_s, bnd5_s, bndR_l, bndR_r, bndX_l, bndX_r, nq_lt, nq_le, nq_inj, nq_add, nq_mul, nq_sub, nq_div, nq_neg1, nq_clamp, nq_ne1, nq_le1, ne1_lt, n1_lt0, n1_lt, n1_ne, nz0, nz1, nz2, nz3, nz4, nz5, nz6, nz8, nz10, nz31, nz32, nz50, nz400, nz800, nz3200, nz20000, nlt_f, nlt_t, nle_f, nle_t, neq_f, neq_t, gi_si_e, gi_si_n, gp_sp_e, gp_sp_n, gr_sr_e, gr_sr_n, gi_sp, gi_sr, gp_si, gp_sr, gr_si, gr_sp, upd_e, upd_n, un_e, un_n, an_sn_e, an_sn_n, an_sm, an_sv, am_sn, am_sm_e, am_sm_n, am_sv, ai_sn, ai_sm, ai_sv_e, ai_sv_n, reduceIte, or_false, false_or, or_true, true_or, or_self, and_true, true_and, and_false, false_and, not_true_eq_false, not_false_eq_true, hr]
end TK9
section RL
variable {b : Nat → Nat} {L : Nat} {σ τ : St}
theorem run_lock (h : TX b L σ τ) {s e n : Nat} (hn : n < 80) (t : TOK b L s e σ τ) (hw : gi τ 17 = -nI 1) (hr : gi τ 24 = nI n) :
    (∃ (σ' τ' : St) (s' e' : Nat), f_X5_readRun (64 + n) σ = some (nI 1, σ') ∧ f_X11_takesRun τ = some τ' ∧ TOK b L s' e' σ' τ' ∧ s + 8 ≤ s' ∧ RunR n σ' τ' ∧ gi τ' 24 = nI (n + 1) ∧ gi τ' 17 = -nI 1 ∧ rC n σ σ' ∧ rM n τ τ') ∨
    (∃ (σ' τ' : St) (s' : Nat), f_X5_readRun (64 + n) σ = some (nI 0, σ') ∧ f_X11_takesRun τ = some τ' ∧ gi σ' 82 = nI s' ∧ gi τ' 17 = nI s' ∧ s' ≤ L ∧ rC n σ σ' ∧ rM n τ τ' ∧ gi τ' 24 = nI n) := by
  have hL := h.l
  have hc : 64 ≤ 64 + n := by omega
  have kh := kindHere_eq h t
  have hsL : s ≤ L := by have := t.se; have := t.eL; omega
  have w5 : ∀ x, x ≤ L → ¬ nI x = -nI 1 := fun x hx q => by rw [nq_ne1 (by omega)] at q; exact q
  rcases kind_L h t (c := 64 + n) _ (fu := FU) (i := 0) rfl (by omega) (by unfold FU; omega) (fun j hj => by omega) with ⟨kd, σ1, -, k6, km, kr, k1⟩ | ⟨kn, k1⟩
  case inr =>
    refine Or.inr ⟨σ, si τ 17 (nI s), s, ?_, ?_, t.c82, by simp (disch := omega) only [gi_si_e, gi_si_n, gp_sp_e, gp_sp_n, gr_sr_e, gr_sr_n, gi_sp, gi_sr, gp_si, gp_sr, gr_si, gr_sp, upd_e, upd_n, un_e, un_n, an_sn_e, an_sn_n, an_sm, an_sv, am_sn, am_sm_e, am_sm_n, am_sv, ai_sn, ai_sm, ai_sv_e, ai_sv_n, reduceIte, or_false, false_or, or_true, true_or, or_self, and_true, true_and, and_false, false_and, not_true_eq_false, not_false_eq_true], hsL, rC.refl n σ, (tW.s17 _ _).r n, by simp (disch := omega) only [gi_si_e, gi_si_n, gp_sp_e, gp_sp_n, gr_sr_e, gr_sr_n, gi_sp, gi_sr, gp_si, gp_sr, gr_si, gr_sp, upd_e, upd_n, un_e, un_n, an_sn_e, an_sn_n, an_sm, an_sv, am_sn, am_sm_e, am_sm_n, am_sv, ai_sn, ai_sm, ai_sv_e, ai_sv_n, reduceIte, or_false, false_or, or_true, true_or, or_self, and_true, true_and, and_false, false_and, not_true_eq_false, not_false_eq_true]; exact hr⟩
    · exact rr0 (by unfold f_X5_readKind; rw [nz0, k1]; rfl)
    · exact tk0 (kh.2 kn) ((isWrong_eq hw).trans (by rw [t.m15]))
  have k2 : f_X5_readKind (64 + n) σ = some (nI 1, sp σ1 (8 * (64 + n)) kd) := by unfold f_X5_readKind; rw [nz0, k1]; rfl
  have k3 := kh.1 kd k6 km
  have hkd : ¬ nI kd = -1 := fun q => by have q' : nI kd = -nI 1 := q; rw [nq_ne1 (by omega)] at q'; exact q'
  obtain ⟨σ1', τ1, s1, e1, r1, r2, r3, r4, r5, r6⟩ := read_yes h t (show kd < 9 by omega) km
  obtain rfl : σ1 = σ1' := congrArg Prod.snd (Option.some.inj (kr.symm.trans r1))
  have hwl : 4 ≤ wl kd := by
    have : ∀ k : Nat, k < 6 → 4 ≤ wl k := by decide +kernel
    exact this kd k6
  have hw1 : gi τ1 17 = -nI 1 := by rw [r6.1 17 (by decide) (by decide) (by decide) (by decide)]; exact hw
  have hr1 : gi τ1 24 = nI n := by rw [r6.1 24 (by decide) (by decide) (by decide) (by decide)]; exact hr
  have h1 := (h.tr r5 r6).spk (8 * (64 + n)) kd
  have c1 : rC n σ (sp σ1 (8 * (64 + n)) kd) := (r5.r n).trans (rC.spk n _ kd)
  have m1 : rM n τ τ1 := r6.w.r n
  rcases cards_lock h1 hc (r3.spk _ _) hw1 with ⟨v, σ2, τ2, s2, e2, v1, v2, a1, a2, a3, a4, a5, a6, a7⟩ | ⟨a1, a2⟩
  case inr =>
    refine Or.inr ⟨_, si τ1 17 (nI s1), s1, ?_, ?_, ?_, by simp (disch := omega) only [gi_si_e, gi_si_n, gp_sp_e, gp_sp_n, gr_sr_e, gr_sr_n, gi_sp, gi_sr, gp_si, gp_sr, gr_si, gr_sp, upd_e, upd_n, un_e, un_n, an_sn_e, an_sn_n, an_sm, an_sv, am_sn, am_sm_e, am_sm_n, am_sv, ai_sn, ai_sm, ai_sv_e, ai_sv_n, reduceIte, or_false, false_or, or_true, true_or, or_self, and_true, true_and, and_false, false_and, not_true_eq_false, not_false_eq_true], by have := r3.se; have := r3.eL; omega, c1.trans (rC.fld n _ (show 1 < 8 by omega) (-nI 1)), m1.trans ((tW.s17 _ _).r n), by simp (disch := omega) only [gi_si_e, gi_si_n, gp_sp_e, gp_sp_n, gr_sr_e, gr_sr_n, gi_sp, gi_sr, gp_si, gp_sr, gr_si, gr_sp, upd_e, upd_n, un_e, un_n, an_sn_e, an_sn_n, an_sm, an_sv, am_sn, am_sm_e, am_sm_n, am_sv, ai_sn, ai_sm, ai_sv_e, ai_sv_n, reduceIte, or_false, false_or, or_true, true_or, or_self, and_true, true_and, and_false, false_and, not_true_eq_false, not_false_eq_true]; exact hr1⟩
    · exact rr1 k2 a1
    · exact tk1 k3 hkd r2 a2 (by simp (disch := omega) only [gi_si_e, gi_si_n, gp_sp_e, gp_sp_n, gr_sr_e, gr_sr_n, gi_sp, gi_sr, gp_si, gp_sr, gr_si, gr_sp, upd_e, upd_n, un_e, un_n, an_sn_e, an_sn_n, an_sm, an_sv, am_sn, am_sm_e, am_sm_n, am_sv, ai_sn, ai_sm, ai_sv_e, ai_sv_n, reduceIte, or_false, false_or, or_true, true_or, or_self, and_true, true_and, and_false, false_and, not_true_eq_false, not_false_eq_true]; exact w5 s1 (by have := r3.se; have := r3.eL; omega))
    · simp (disch := omega) only [gi_si_e, gi_si_n, gp_sp_e, gp_sp_n, gr_sr_e, gr_sr_n, gi_sp, gi_sr, gp_si, gp_sr, gr_si, gr_sp, upd_e, upd_n, un_e, un_n, an_sn_e, an_sn_n, an_sm, an_sv, am_sn, am_sm_e, am_sm_n, am_sv, ai_sn, ai_sm, ai_sv_e, ai_sv_n, reduceIte, or_false, false_or, or_true, true_or, or_self, and_true, true_and, and_false, false_and, not_true_eq_false, not_false_eq_true]; exact r3.c82
  have hw2 : gi τ2 17 = -nI 1 := by rw [a7.1 17 (by decide) (by decide) (by decide) (by decide)]; exact hw1
  have hr2 : gi τ2 24 = nI n := by rw [a7.1 24 (by decide) (by decide) (by decide) (by decide)]; exact hr1
  have h2 := (h1.tr a6 a7).fld hc 1 (nI v)
  have t2 := a3.fld hc 1 (nI v)
  have c2 := (c1.trans (a6.r n)).trans (rC.fld n _ (show 1 < 8 by omega) (nI v))
  have m2 := m1.trans (a7.w.r n)
  rcases start_lock h2 hc t2 hw2 with ⟨w, σ3, τ3, s3, e3, b1, b2, b3, b4, b5, b6, b7, b8⟩ | ⟨σ3, τ3, w, w', s3, b1, b2, b3, b4, b5, b7, b8⟩
  case inr =>
    refine Or.inr ⟨_, τ3, s3, ?_, ?_, ?_, b4, b5, (c2.trans (b7.r n)).trans (rC.fld n _ (show 2 < 8 by omega) w), m2.trans (b8.r n), (b8.1 24 (by omega)).trans hr2⟩
    · exact rr2 k2 a1 b1
    · exact tk2 k3 hkd r2 a2 hw2 b2 (by rw [b4]; exact w5 s3 b5)
    · simp (disch := omega) only [gi_si_e, gi_si_n, gp_sp_e, gp_sp_n, gr_sr_e, gr_sr_n, gi_sp, gi_sr, gp_si, gp_sr, gr_si, gr_sp, upd_e, upd_n, un_e, un_n, an_sn_e, an_sn_n, an_sm, an_sv, am_sn, am_sm_e, am_sm_n, am_sv, ai_sn, ai_sm, ai_sv_e, ai_sv_n, reduceIte, or_false, false_or, or_true, true_or, or_self, and_true, true_and, and_false, false_and, not_true_eq_false, not_false_eq_true]; exact b3
  have hw3 : gi τ3 17 = -nI 1 := by rw [b8.1 17 (by decide) (by decide) (by decide) (by decide)]; exact hw2
  have hr3 : gi τ3 24 = nI n := by rw [b8.1 24 (by decide) (by decide) (by decide) (by decide)]; exact hr2
  have h3 := (h2.tr b7 b8).fld hc 2 w
  have t3 := b3.fld hc 2 w
  have c3 := (c2.trans (b7.r n)).trans (rC.fld n _ (show 2 < 8 by omega) w)
  have m3 := m2.trans (b8.w.r n)
  have hk3 : gp (si σ3 (8 * (64 + n) + 2) w) (8 * (64 + n)) = kd := by
    rw [gp_si, b7.2.1, gp_si, a6.2.1]; simp (disch := omega) only [gi_si_e, gi_si_n, gp_sp_e, gp_sp_n, gr_sr_e, gr_sr_n, gi_sp, gi_sr, gp_si, gp_sr, gr_si, gr_sp, upd_e, upd_n, un_e, un_n, an_sn_e, an_sn_n, an_sm, an_sv, am_sn, am_sm_e, am_sm_n, am_sv, ai_sn, ai_sm, ai_sv_e, ai_sv_n, reduceIte, or_false, false_or, or_true, true_or, or_self, and_true, true_and, and_false, false_and, not_true_eq_false, not_false_eq_true]
  have hs3 : s + 7 ≤ s3 := by
    by_cases q : al (b s2) = 1
    · have := a5 q b6; omega
    · have := b5 q; omega
  rcases step_lock h3 hc t3 hw3 hk3 k6 with ⟨p, σ4, τ4, s4, e4, d1, d2, d3, d4, d5, d6, d7⟩ | ⟨d1, d2, d3⟩
  case inr =>
    refine Or.inr ⟨_, si τ3 17 (nI s3), s3, ?_, ?_, ?_, by simp (disch := omega) only [gi_si_e, gi_si_n, gp_sp_e, gp_sp_n, gr_sr_e, gr_sr_n, gi_sp, gi_sr, gp_si, gp_sr, gr_si, gr_sp, upd_e, upd_n, un_e, un_n, an_sn_e, an_sn_n, an_sm, an_sv, am_sn, am_sm_e, am_sm_n, am_sv, ai_sn, ai_sm, ai_sv_e, ai_sv_n, reduceIte, or_false, false_or, or_true, true_or, or_self, and_true, true_and, and_false, false_and, not_true_eq_false, not_false_eq_true], by have := b3.se; have := b3.eL; omega, c3.trans (rC.fld n _ (show 3 < 8 by omega) (-nI 1)), m3.trans ((tW.s17 _ _).r n), by simp (disch := omega) only [gi_si_e, gi_si_n, gp_sp_e, gp_sp_n, gr_sr_e, gr_sr_n, gi_sp, gi_sr, gp_si, gp_sr, gr_si, gr_sp, upd_e, upd_n, un_e, un_n, an_sn_e, an_sn_n, an_sm, an_sv, am_sn, am_sm_e, am_sm_n, am_sv, ai_sn, ai_sm, ai_sv_e, ai_sv_n, reduceIte, or_false, false_or, or_true, true_or, or_self, and_true, true_and, and_false, false_and, not_true_eq_false, not_false_eq_true]; exact hr3⟩
    · exact rr3 k2 a1 b1 d2
    · refine tk3 k3 hkd r2 a2 hw2 b2 hw3 (p := nI 0) (τ4 := si τ3 17 (nI s3)) ?_ (by simp (disch := omega) only [gi_si_e, gi_si_n, gp_sp_e, gp_sp_n, gr_sr_e, gr_sr_n, gi_sp, gi_sr, gp_si, gp_sr, gr_si, gr_sp, upd_e, upd_n, un_e, un_n, an_sn_e, an_sn_n, an_sm, an_sv, am_sn, am_sm_e, am_sm_n, am_sv, ai_sn, ai_sm, ai_sv_e, ai_sv_n, reduceIte, or_false, false_or, or_true, true_or, or_self, and_true, true_and, and_false, false_and, not_true_eq_false, not_false_eq_true]; exact w5 s3 (by have := b3.se; have := b3.eL; omega))
      unfold tkStep
      rw [if_neg (show ¬ nI kd = 0 by rw [nz0, nq_inj (by omega) (by omega)]; exact d1), show f_X11_takesNumber 0 999 τ3 = _ from d3, bnd2_s]
    · simp (disch := omega) only [gi_si_e, gi_si_n, gp_sp_e, gp_sp_n, gr_sr_e, gr_sr_n, gi_sp, gi_sr, gp_si, gp_sr, gr_si, gr_sp, upd_e, upd_n, un_e, un_n, an_sn_e, an_sn_n, an_sm, an_sv, am_sn, am_sm_e, am_sm_n, am_sv, ai_sn, ai_sm, ai_sv_e, ai_sv_n, reduceIte, or_false, false_or, or_true, true_or, or_self, and_true, true_and, and_false, false_and, not_true_eq_false, not_false_eq_true]; exact b3.c82
  have hw4 : gi τ4 17 = -nI 1 := by rw [d7.1 17 (by decide) (by decide) (by decide) (by decide)]; exact hw3
  have hr4 : gi τ4 24 = nI n := by rw [d7.1 24 (by decide) (by decide) (by decide) (by decide)]; exact hr3
  have h4 := (h3.tr d6 d7).fld hc 3 (nI p)
  have t4 := d4.fld hc 3 (nI p)
  have c4 := (c3.trans (d6.r n)).trans (rC.fld n _ (show 3 < 8 by omega) (nI p))
  have m4 := m3.trans (d7.w.r n)
  have hk4 : gp (si σ4 (8 * (64 + n) + 3) (nI p)) (8 * (64 + n)) = kd := by
    rw [gp_si, d6.2.1]; exact hk3
  have stepM : tkStep (nI kd) τ3 = some (nI p, τ4) := by
    unfold tkStep
    by_cases k0 : kd = 0
    · rw [if_pos k0] at d3
      rw [if_pos (show nI kd = 0 by rw [k0]; rfl), d3.1, d3.2]; rfl
    · rw [if_neg k0] at d3
      rw [if_neg (show ¬ nI kd = 0 by rw [nz0, nq_inj (by omega) (by omega)]; exact k0), show f_X11_takesNumber 0 999 τ3 = _ from d3, bnd2_s]
  rcases len_lock h4 hc t4 hw4 hk4 k6 with ⟨q, σ5, τ5, s5, e5, f1, f2, f3, f4, f5, f6⟩ | ⟨f1, f2, f3⟩
  case inr =>
    refine Or.inr ⟨_, si τ4 17 (nI s4), s4, ?_, ?_, ?_, by simp (disch := omega) only [gi_si_e, gi_si_n, gp_sp_e, gp_sp_n, gr_sr_e, gr_sr_n, gi_sp, gi_sr, gp_si, gp_sr, gr_si, gr_sp, upd_e, upd_n, un_e, un_n, an_sn_e, an_sn_n, an_sm, an_sv, am_sn, am_sm_e, am_sm_n, am_sv, ai_sn, ai_sm, ai_sv_e, ai_sv_n, reduceIte, or_false, false_or, or_true, true_or, or_self, and_true, true_and, and_false, false_and, not_true_eq_false, not_false_eq_true], by have := d4.se; have := d4.eL; omega, c4.trans (rC.fld n _ (show 4 < 8 by omega) (-nI 1)), m4.trans ((tW.s17 _ _).r n), by simp (disch := omega) only [gi_si_e, gi_si_n, gp_sp_e, gp_sp_n, gr_sr_e, gr_sr_n, gi_sp, gi_sr, gp_si, gp_sr, gr_si, gr_sp, upd_e, upd_n, un_e, un_n, an_sn_e, an_sn_n, an_sm, an_sv, am_sn, am_sm_e, am_sm_n, am_sv, ai_sn, ai_sm, ai_sv_e, ai_sv_n, reduceIte, or_false, false_or, or_true, true_or, or_self, and_true, true_and, and_false, false_and, not_true_eq_false, not_false_eq_true]; exact hr4⟩
    · exact rr4 k2 a1 b1 d2 f2
    · refine tk4 k3 hkd r2 a2 hw2 b2 hw3 stepM hw4 (q := nI 1) (τ5 := si τ4 17 (nI s4)) ?_ (by simp (disch := omega) only [gi_si_e, gi_si_n, gp_sp_e, gp_sp_n, gr_sr_e, gr_sr_n, gi_sp, gi_sr, gp_si, gp_sr, gr_si, gr_sp, upd_e, upd_n, un_e, un_n, an_sn_e, an_sn_n, an_sm, an_sv, am_sn, am_sm_e, am_sm_n, am_sv, ai_sn, ai_sm, ai_sv_e, ai_sv_n, reduceIte, or_false, false_or, or_true, true_or, or_self, and_true, true_and, and_false, false_and, not_true_eq_false, not_false_eq_true]; exact w5 s4 (by have := d4.se; have := d4.eL; omega))
      unfold tkLen
      rw [if_pos (show nI kd = 5 by rw [f1]; rfl), show f_X11_takesNumber 1 99 τ4 = _ from f3, bnd2_s]
    · simp (disch := omega) only [gi_si_e, gi_si_n, gp_sp_e, gp_sp_n, gr_sr_e, gr_sr_n, gi_sp, gi_sr, gp_si, gp_sr, gr_si, gr_sp, upd_e, upd_n, un_e, un_n, an_sn_e, an_sn_n, an_sm, an_sv, am_sn, am_sm_e, am_sm_n, am_sv, ai_sn, ai_sm, ai_sv_e, ai_sv_n, reduceIte, or_false, false_or, or_true, true_or, or_self, and_true, true_and, and_false, false_and, not_true_eq_false, not_false_eq_true]; exact d4.c82
  have hw5 : gi τ5 17 = -nI 1 := by rw [f6.1 17 (by decide) (by decide) (by decide) (by decide)]; exact hw4
  have hr5 : gi τ5 24 = nI n := by rw [f6.1 24 (by decide) (by decide) (by decide) (by decide)]; exact hr4
  have h5 := (h4.tr f5 f6).fld hc 4 (nI q)
  have t5 := f3.fld hc 4 (nI q)
  have c5 := (c4.trans (f5.r n)).trans (rC.fld n _ (show 4 < 8 by omega) (nI q))
  have m5 := m4.trans (f6.w.r n)
  obtain ⟨lm, lenM, lmq⟩ : ∃ lm, tkLen (nI kd) τ4 = some (nI lm, τ5) ∧ (kd = 5 → lm = q ∧ 1 ≤ q ∧ q ≤ 99) := by
    unfold tkLen
    by_cases k0 : kd = 5
    · rw [if_pos k0] at f2
      exact ⟨q, by rw [if_pos (show nI kd = 5 by rw [k0]; rfl), show f_X11_takesNumber 1 99 τ4 = _ from f2.2, bnd2_s], fun _ => ⟨rfl, f2.1⟩⟩
    · rw [if_neg k0] at f2
      exact ⟨1, by rw [if_neg (show ¬ nI kd = 5 by rw [nz5, nq_inj (by omega) (by omega)]; exact k0), f2.2]; rfl, fun k => absurd k k0⟩
  rcases div_lock h5 hc t5 hw5 with ⟨dp, dq, σ6, τ6, s6, e6, g1, g2, g3, g4, g5, g6, g7⟩ | ⟨σ6, τ61, τ6, s6, g1, g2, g3, g4, g5, g6, g7, g8, g9⟩
  case inr =>
    refine Or.inr ⟨_, τ6, s6, ?_, ?_, ?_, g6, g7, (c5.trans (g8.r n)).trans (rC.fld n _ (show 5 < 8 by omega) (-nI 1)), m5.trans (g9.r n), (g9.1 24 (by omega)).trans hr5⟩
    · exact rr5 k2 a1 b1 d2 f1 g1
    · refine tk5 k3 hkd r2 a2 hw2 b2 hw3 stepM hw4 lenM hw5 (d := nI 1) (τ6 := τ6) ?_ (by rw [g6]; exact w5 s6 g7)
      unfold tkDiv
      rw [g2, bnd_s, if_neg n10, g3, bnd_s, show f_X11_takesNumber 1 99 τ61 = _ from g4, bnd2_s]
    · simp (disch := omega) only [gi_si_e, gi_si_n, gp_sp_e, gp_sp_n, gr_sr_e, gr_sr_n, gi_sp, gi_sr, gp_si, gp_sr, gr_si, gr_sp, upd_e, upd_n, un_e, un_n, an_sn_e, an_sn_n, an_sm, an_sv, am_sn, am_sm_e, am_sm_n, am_sv, ai_sn, ai_sm, ai_sv_e, ai_sv_n, reduceIte, or_false, false_or, or_true, true_or, or_self, and_true, true_and, and_false, false_and, not_true_eq_false, not_false_eq_true]; exact g5
  have hw6 : gi τ6 17 = -nI 1 := by rw [g7.1 17 (by decide) (by decide) (by decide) (by decide)]; exact hw5
  have hr6 : gi τ6 24 = nI n := by rw [g7.1 24 (by decide) (by decide) (by decide) (by decide)]; exact hr5
  have h6 := (h5.tr g6 g7).fld hc 5 (nI dp)
  have t6 := g4.fld hc 5 (nI dp)
  have c6 := (c5.trans (g6.r n)).trans (rC.fld n _ (show 5 < 8 by omega) (nI dp))
  have m6 := m5.trans (g7.w.r n)
  have divM : tkDiv τ5 = some (nI dq, τ6) := by
    unfold tkDiv
    rcases g3 with ⟨q1, q2, q3⟩ | ⟨τ61, q1, q2, q3⟩
    · rw [q1, bnd_s, if_pos p00, q2, q3]; rfl
    · rw [q1, bnd_s, if_neg n10, q2, bnd_s, show f_X11_takesNumber 1 99 τ61 = _ from q3, bnd2_s]
  have sg := (sign_iff h6 t6).1
  by_cases mm : Mt b s6 e6 6
  case neg =>
    have z1 := read_no h6 t6 (show 6 < 9 by omega) mm
    have z2 : ¬ gi τ6 14 = nI 3 := fun q => mm (sg.mpr q)
    refine Or.inr ⟨_, si τ6 17 (nI s6), s6, ?_, ?_, ?_, by simp (disch := omega) only [gi_si_e, gi_si_n, gp_sp_e, gp_sp_n, gr_sr_e, gr_sr_n, gi_sp, gi_sr, gp_si, gp_sr, gr_si, gr_sp, upd_e, upd_n, un_e, un_n, an_sn_e, an_sn_n, an_sm, an_sv, am_sn, am_sm_e, am_sm_n, am_sv, ai_sn, ai_sm, ai_sv_e, ai_sv_n, reduceIte, or_false, false_or, or_true, true_or, or_self, and_true, true_and, and_false, false_and, not_true_eq_false, not_false_eq_true], by have := g4.se; have := g4.eL; omega, c6, m6.trans ((tW.s17 _ _).r n), by simp (disch := omega) only [gi_si_e, gi_si_n, gp_sp_e, gp_sp_n, gr_sr_e, gr_sr_n, gi_sp, gi_sr, gp_si, gp_sr, gr_si, gr_sp, upd_e, upd_n, un_e, un_n, an_sn_e, an_sn_n, an_sm, an_sv, am_sn, am_sm_e, am_sm_n, am_sv, ai_sn, ai_sm, ai_sv_e, ai_sv_n, reduceIte, or_false, false_or, or_true, true_or, or_self, and_true, true_and, and_false, false_and, not_true_eq_false, not_false_eq_true]; exact hr6⟩
    · exact rr6 k2 a1 b1 d2 f1 g2 z1
    · exact tk6 k3 hkd r2 a2 hw2 b2 hw3 stepM hw4 lenM hw5 divM hw6 z2 ((isWrong_eq hw6).trans (by rw [g4.m15])) (by simp (disch := omega) only [gi_si_e, gi_si_n, gp_sp_e, gp_sp_n, gr_sr_e, gr_sr_n, gi_sp, gi_sr, gp_si, gp_sr, gr_si, gr_sp, upd_e, upd_n, un_e, un_n, an_sn_e, an_sn_n, an_sm, an_sv, am_sn, am_sm_e, am_sm_n, am_sv, ai_sn, ai_sm, ai_sv_e, ai_sv_n, reduceIte, or_false, false_or, or_true, true_or, or_self, and_true, true_and, and_false, false_and, not_true_eq_false, not_false_eq_true]; exact w5 s6 (by have := g4.se; have := g4.eL; omega))
    · exact t6.c82
  obtain ⟨σ7, τ7, s7, e7, z1, z2, z3, z4, z5, z6⟩ := read_yes h6 t6 (show 6 < 9 by omega) mm
  have hw7 : gi τ7 17 = -nI 1 := by rw [z6.1 17 (by decide) (by decide) (by decide) (by decide)]; exact hw6
  have hr7 : gi τ7 24 = nI n := by rw [z6.1 24 (by decide) (by decide) (by decide) (by decide)]; exact hr6
  have z4' : s6 + 1 ≤ s7 := z4
  refine Or.inl ⟨σ7, si (sr (sr (sr (sr (sr (sr τ7 19 (upd (gr τ7 19) n (nI kd))) 20 (upd (gr τ7 20) n (nI v))) 21 (upd (gr τ7 21) n w)) 22 (upd (gr τ7 22) n (nI p))) 23 (upd (gr τ7 23) n (nI lm))) 24 (upd (gr τ7 24) n (nI dq))) 24 (nI (n + 1)), s7, e7, ?_, ?_, ?_, by omega, ?_, by simp (disch := omega) only [gi_si_e, gi_si_n, gp_sp_e, gp_sp_n, gr_sr_e, gr_sr_n, gi_sp, gi_sr, gp_si, gp_sr, gr_si, gr_sp, upd_e, upd_n, un_e, un_n, an_sn_e, an_sn_n, an_sm, an_sv, am_sn, am_sm_e, am_sm_n, am_sv, ai_sn, ai_sm, ai_sv_e, ai_sv_n, reduceIte, or_false, false_or, or_true, true_or, or_self, and_true, true_and, and_false, false_and, not_true_eq_false, not_false_eq_true], by simp (disch := omega) only [gi_si_e, gi_si_n, gp_sp_e, gp_sp_n, gr_sr_e, gr_sr_n, gi_sp, gi_sr, gp_si, gp_sr, gr_si, gr_sp, upd_e, upd_n, un_e, un_n, an_sn_e, an_sn_n, an_sm, an_sv, am_sn, am_sm_e, am_sm_n, am_sv, ai_sn, ai_sm, ai_sv_e, ai_sv_n, reduceIte, or_false, false_or, or_true, true_or, or_self, and_true, true_and, and_false, false_and, not_true_eq_false, not_false_eq_true]; exact hw7, c6.trans (z5.r n), (m6.trans (z6.w.r n)).trans (rM.fin n τ7 _ _ _ _ _ _ _)⟩
  · exact rr7 k2 a1 b1 d2 f1 g2 z1
  · exact tk7 hn k3 hkd r2 a2 hw2 b2 hw3 stepM hw4 lenM hw5 divM hw6 (sg.mp mm) z2 hr7
  · obtain ⟨q1, q2, q3, q4, q5⟩ := z3
    exact ⟨q1, q2, by simp (disch := omega) only [gi_si_e, gi_si_n, gp_sp_e, gp_sp_n, gr_sr_e, gr_sr_n, gi_sp, gi_sr, gp_si, gp_sr, gr_si, gr_sp, upd_e, upd_n, un_e, un_n, an_sn_e, an_sn_n, an_sm, an_sv, am_sn, am_sm_e, am_sm_n, am_sv, ai_sn, ai_sm, ai_sv_e, ai_sv_n, reduceIte, or_false, false_or, or_true, true_or, or_self, and_true, true_and, and_false, false_and, not_true_eq_false, not_false_eq_true]; exact q3, by simp (disch := omega) only [gi_si_e, gi_si_n, gp_sp_e, gp_sp_n, gr_sr_e, gr_sr_n, gi_sp, gi_sr, gp_si, gp_sr, gr_si, gr_sp, upd_e, upd_n, un_e, un_n, an_sn_e, an_sn_n, an_sm, an_sv, am_sn, am_sm_e, am_sm_n, am_sv, ai_sn, ai_sm, ai_sv_e, ai_sv_n, reduceIte, or_false, false_or, or_true, true_or, or_self, and_true, true_and, and_false, false_and, not_true_eq_false, not_false_eq_true]; exact q4, by simp (disch := omega) only [gi_si_e, gi_si_n, gp_sp_e, gp_sp_n, gr_sr_e, gr_sr_n, gi_sp, gi_sr, gp_si, gp_sr, gr_si, gr_sp, upd_e, upd_n, un_e, un_n, an_sn_e, an_sn_n, an_sm, an_sv, am_sn, am_sm_e, am_sm_n, am_sv, ai_sn, ai_sm, ai_sv_e, ai_sv_n, reduceIte, or_false, false_or, or_true, true_or, or_self, and_true, true_and, and_false, false_and, not_true_eq_false, not_false_eq_true]; exact q5⟩
  · have ek : gp σ7 (8 * (64 + n)) = kd := by
      rw [z5.2.1, gp_si, g6.2.1, gp_si, f5.2.1]; exact hk4
    refine ⟨by rw [ek]; exact k6, by rw [ek]; simp (disch := omega) only [gi_si_e, gi_si_n, gp_sp_e, gp_sp_n, gr_sr_e, gr_sr_n, gi_sp, gi_sr, gp_si, gp_sr, gr_si, gr_sp, upd_e, upd_n, un_e, un_n, an_sn_e, an_sn_n, an_sm, an_sv, am_sn, am_sm_e, am_sm_n, am_sv, ai_sn, ai_sm, ai_sv_e, ai_sv_n, reduceIte, or_false, false_or, or_true, true_or, or_self, and_true, true_and, and_false, false_and, not_true_eq_false, not_false_eq_true], ⟨v, v1, v2, ?_, by simp (disch := omega) only [gi_si_e, gi_si_n, gp_sp_e, gp_sp_n, gr_sr_e, gr_sr_n, gi_sp, gi_sr, gp_si, gp_sr, gr_si, gr_sp, upd_e, upd_n, un_e, un_n, an_sn_e, an_sn_n, an_sm, an_sv, am_sn, am_sm_e, am_sm_n, am_sv, ai_sn, ai_sm, ai_sv_e, ai_sv_n, reduceIte, or_false, false_or, or_true, true_or, or_self, and_true, true_and, and_false, false_and, not_true_eq_false, not_false_eq_true]⟩, ?_, ⟨p, d1, ?_, by simp (disch := omega) only [gi_si_e, gi_si_n, gp_sp_e, gp_sp_n, gr_sr_e, gr_sr_n, gi_sp, gi_sr, gp_si, gp_sr, gr_si, gr_sp, upd_e, upd_n, un_e, un_n, an_sn_e, an_sn_n, an_sm, an_sv, am_sn, am_sm_e, am_sm_n, am_sv, ai_sn, ai_sm, ai_sv_e, ai_sv_n, reduceIte, or_false, false_or, or_true, true_or, or_self, and_true, true_and, and_false, false_and, not_true_eq_false, not_false_eq_true]⟩, fun k5 => ?_, ⟨dp, dq, g1, ?_, by simp (disch := omega) only [gi_si_e, gi_si_n, gp_sp_e, gp_sp_n, gr_sr_e, gr_sr_n, gi_sp, gi_sr, gp_si, gp_sr, gr_si, gr_sp, upd_e, upd_n, un_e, un_n, an_sn_e, an_sn_n, an_sm, an_sv, am_sn, am_sm_e, am_sm_n, am_sv, ai_sn, ai_sm, ai_sv_e, ai_sv_n, reduceIte, or_false, false_or, or_true, true_or, or_self, and_true, true_and, and_false, false_and, not_true_eq_false, not_false_eq_true]⟩⟩
    · simp (disch := omega) only [gi_si_e, gi_si_n, gp_sp_e, gp_sp_n, gr_sr_e, gr_sr_n, gi_sp, gi_sr, gp_si, gp_sr, gr_si, gr_sp, upd_e, upd_n, un_e, un_n, an_sn_e, an_sn_n, an_sm, an_sv, am_sn, am_sm_e, am_sm_n, am_sv, ai_sn, ai_sm, ai_sv_e, ai_sv_n, reduceIte, or_false, false_or, or_true, true_or, or_self, and_true, true_and, and_false, false_and, not_true_eq_false, not_false_eq_true, z5.1, g6.1, f5.1, d6.1, b7.1]
    · simp (disch := omega) only [gi_si_e, gi_si_n, gp_sp_e, gp_sp_n, gr_sr_e, gr_sr_n, gi_sp, gi_sr, gp_si, gp_sr, gr_si, gr_sp, upd_e, upd_n, un_e, un_n, an_sn_e, an_sn_n, an_sm, an_sv, am_sn, am_sm_e, am_sm_n, am_sv, ai_sn, ai_sm, ai_sv_e, ai_sv_n, reduceIte, or_false, false_or, or_true, true_or, or_self, and_true, true_and, and_false, false_and, not_true_eq_false, not_false_eq_true, z5.1, g6.1, f5.1, d6.1]
    · simp (disch := omega) only [gi_si_e, gi_si_n, gp_sp_e, gp_sp_n, gr_sr_e, gr_sr_n, gi_sp, gi_sr, gp_si, gp_sr, gr_si, gr_sp, upd_e, upd_n, un_e, un_n, an_sn_e, an_sn_n, an_sm, an_sv, am_sn, am_sm_e, am_sm_n, am_sv, ai_sn, ai_sm, ai_sv_e, ai_sv_n, reduceIte, or_false, false_or, or_true, true_or, or_self, and_true, true_and, and_false, false_and, not_true_eq_false, not_false_eq_true, z5.1, g6.1, f5.1]
    · rw [ek] at k5
      obtain ⟨l1, l2, l3⟩ := lmq k5
      refine ⟨q, l2, l3, ?_, by simp (disch := omega) only [gi_si_e, gi_si_n, gp_sp_e, gp_sp_n, gr_sr_e, gr_sr_n, gi_sp, gi_sr, gp_si, gp_sr, gr_si, gr_sp, upd_e, upd_n, un_e, un_n, an_sn_e, an_sn_n, an_sm, an_sv, am_sn, am_sm_e, am_sm_n, am_sv, ai_sn, ai_sm, ai_sv_e, ai_sv_n, reduceIte, or_false, false_or, or_true, true_or, or_self, and_true, true_and, and_false, false_and, not_true_eq_false, not_false_eq_true, l1]⟩
      simp (disch := omega) only [gi_si_e, gi_si_n, gp_sp_e, gp_sp_n, gr_sr_e, gr_sr_n, gi_sp, gi_sr, gp_si, gp_sr, gr_si, gr_sp, upd_e, upd_n, un_e, un_n, an_sn_e, an_sn_n, an_sm, an_sv, am_sn, am_sm_e, am_sm_n, am_sv, ai_sn, ai_sm, ai_sv_e, ai_sv_n, reduceIte, or_false, false_or, or_true, true_or, or_self, and_true, true_and, and_false, false_and, not_true_eq_false, not_false_eq_true, z5.1, g6.1]
    · simp (disch := omega) only [gi_si_e, gi_si_n, gp_sp_e, gp_sp_n, gr_sr_e, gr_sr_n, gi_sp, gi_sr, gp_si, gp_sr, gr_si, gr_sp, upd_e, upd_n, un_e, un_n, an_sn_e, an_sn_n, an_sm, an_sv, am_sn, am_sm_e, am_sm_n, am_sv, ai_sn, ai_sm, ai_sv_e, ai_sv_n, reduceIte, or_false, false_or, or_true, true_or, or_self, and_true, true_and, and_false, false_and, not_true_eq_false, not_false_eq_true, z5.1]
end RL
