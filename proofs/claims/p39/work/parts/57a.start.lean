/-! a cabinet as it is made; the refusals that the law asks for -/
def a0Q : AS := (fun _ => 0, fun _ _ => 0, fun _ _ => 0)
theorem qIN_0 : qIN a0Q (fun _ => []) sZ := by
  have c1 : ∀ x : Nat, x ≠ 112 → gi sZ x = nI 0 := fun x hx => by
    show (if x = 112 then (1 : Int32) else 0) = nI 0
    rw [if_neg hx]; rfl
  exact ⟨Nat.zero_le _, ⟨c1 10 (by decide), fun _ h => absurd h (Nat.not_lt_zero _), fun _ h => absurd h (Nat.not_lt_zero _)⟩, fun r hr => ⟨Nat.zero_le _, (fun _ h => nomatch h), c1 _ (by omega), rfl⟩, ⟨8, 9, rfl, rfl, Or.inl ⟨rfl, rfl⟩⟩, fun j h1 h2 => ⟨0, Nat.zero_le _, c1 _ (by omega)⟩, fun r hr h => nomatch h⟩
theorem D_b1 (σ : St) : f_L_done 1 4 0 0 σ = some (-1, σ) := by
  rw [dn_1]
  have e : f_X10_sort 4 σ = some (.inl zI, σ) := by
    unfold f_X10_sort f_X10_rowAt
    rw [if_neg (by decide), if_neg (by decide), bndX_l]; rfl
  rw [e]; exact ifI _ none
section DB
variable {a : AS} {R : QR} {σ : St}
theorem D_b2 (h : qIN a R σ) : f_L_done 2 0 0 (nI ((R 0).length + 1)) σ = some (-1, σ) := by
  have hn := h.len (show 0 < 4 by decide)
  have hs := h.sz (show 0 < 4 by decide)
  rw [dn_2]
  have e : f_X10_sortPart 0 0 (nI ((R 0).length + 1)) σ = some (.inl zI, σ) := by
    unfold f_X10_sortPart
    rw [nz0, rowAt_ok (by decide), bndX_r]
    unfold f_X10_needPart
    simp (disch := omega) only [↓bnd_s, ↓bnd2_s, ↓bnd3_s, ↓bnd4_s, ↓bnd5_s, ↓bndR_l, ↓bndR_r, ↓bndX_l, ↓bndX_r, ↓bndQ_s, ↓bndQ2_s, bndQ_s, bndQ2_s, bnd_s, bnd2_s, bnd3_s, bnd4_s, bnd5_s, bndR_l, bndR_r, bndX_l, bndX_r, nq_lt, nq_le, nq_inj, nq_add, nq_mul, nq_sub, nq_div, nq_neg1, nq_clamp, nq_ne1, nq_le1, ne1_lt, n1_lt0, n1_lt, n1_ne, nz0, nz1, nz2, nz3, nz4, nz5, nz6, nz8, nz10, nz31, nz32, nz50, nz400, nz800, nz3200, nz20000, nlt_f, nlt_t, nle_f, nle_t, neq_f, neq_t, gi_si_e, gi_si_n, gp_sp_e, gp_sp_n, gr_sr_e, gr_sr_n, gi_sp, gi_sr, gp_si, gp_sr, gr_si, gr_sp, upd_e, upd_n, un_e, un_n, an_sn_e, an_sn_n, an_sm, an_sv, am_sn, am_sm_e, am_sm_n, am_sv, ai_sn, ai_sm, ai_sv_e, ai_sv_n, reduceIte, or_false, false_or, or_true, true_or, or_self, and_true, true_and, and_false, false_and, not_true_eq_false, not_false_eq_true, hs]; rfl
  rw [e]; exact ifI _ none
theorem D_b3 (h : qIN a R σ) : f_L_done 2 0 1 0 σ = some (-2, σ) := by
  have hn := h.len (show 0 < 4 by decide)
  have hs := h.sz (show 0 < 4 by decide)
  rw [dn_2]
  have e : f_X10_sortPart 0 1 0 σ = some (.inl zA, σ) := by
    unfold f_X10_sortPart
    rw [nz0, rowAt_ok (by decide), bndX_r]
    unfold f_X10_needPart
    simp (disch := omega) only [↓bnd_s, ↓bnd2_s, ↓bnd3_s, ↓bnd4_s, ↓bnd5_s, ↓bndR_l, ↓bndR_r, ↓bndX_l, ↓bndX_r, ↓bndQ_s, ↓bndQ2_s, bndQ_s, bndQ2_s, bnd_s, bnd2_s, bnd3_s, bnd4_s, bnd5_s, bndR_l, bndR_r, bndX_l, bndX_r, nq_lt, nq_le, nq_inj, nq_add, nq_mul, nq_sub, nq_div, nq_neg1, nq_clamp, nq_ne1, nq_le1, ne1_lt, n1_lt0, n1_lt, n1_ne, nz0, nz1, nz2, nz3, nz4, nz5, nz6, nz8, nz10, nz31, nz32, nz50, nz400, nz800, nz3200, nz20000, nlt_f, nlt_t, nle_f, nle_t, neq_f, neq_t, gi_si_e, gi_si_n, gp_sp_e, gp_sp_n, gr_sr_e, gr_sr_n, gi_sp, gi_sr, gp_si, gp_sr, gr_si, gr_sp, upd_e, upd_n, un_e, un_n, an_sn_e, an_sn_n, an_sm, an_sv, am_sn, am_sm_e, am_sm_n, am_sv, ai_sn, ai_sm, ai_sv_e, ai_sv_n, reduceIte, or_false, false_or, or_true, true_or, or_self, and_true, true_and, and_false, false_and, not_true_eq_false, not_false_eq_true, hs]; rfl
  rw [e]
  show (if zA = "java/lang/IndexOutOfBoundsException" then some (-1, σ) else if zA = "java/lang/IllegalArgumentException" then some (-2, σ) else none) = some (-2, σ)
  rw [if_neg (by decide), if_pos (show zA = "java/lang/IllegalArgumentException" from rfl)]
theorem D_b4 (σ : St) : f_L_done 6 0 0 0 σ = some (-2, σ) := by
  rw [dn_6, nz0, E_pour_same]
  show (if zA = "java/lang/IllegalArgumentException" then some (-2, σ) else if zA = "java/lang/IllegalStateException" then some (-3, σ) else none) = some (-2, σ)
  rw [if_pos (show zA = "java/lang/IllegalArgumentException" from rfl)]
theorem D_b5 (h : qIN a R σ) : f_L_done 16 0 (nI (R 0).length) 0 σ = some (-1, σ) := by
  rw [dn_16, nz0, E_cardAt_no h (by decide)]; exact ifI _ none
theorem srtN_le {t : Nat} {L : List Int32} (h : L.length ≤ 800) : srtN a t L ≤ 800 := by
  have : ∀ (f g : Nat → Int32) (n : Nat), dif f g n ≤ n := fun f g n => by
    induction n with
    | zero => exact Nat.le_refl _
    | succ n ih =>
      rw [dif_s]
      split <;> omega
  exact Nat.le_trans (this _ _ _) h
end DB
