/-! the law's moves, its place for a card -/
def mv6 (a2 a3 : Int32) (a4 a5 a6 : Nat) (σ : St) (r_2 r_8 o_x : Int32) (ρ_9 : St) : Option (Int32 × St × St) :=
  (if (r_2 + r_8) ≤ (800 : Int32) then (bnd (f_L_moves_L74 a4 a5 r_2 r_8 FU (0 : Int32) ρ_9) fun ρ_282 => (bnd2 (f_L_done (6 : Int32) a2 o_x (0 : Int32) σ) fun r_290 σ_291 => (bnd2 (if r_290 = (r_2 + r_8) then (bndQ (f_X10_count a2 σ_291) fun r_297 => (if r_297 = 0 then (bnd2 (f_L_sees o_x a6 σ_291 ρ_282) fun r_300 ρ_301 => (if r_300 = (r_2 + r_8) then (bnd (f_L_isLike a5 a6 (r_2 + r_8) ρ_301) fun r_304 => (if r_304 = 0 then some ((0 : Int32), ρ_301) else some ((1 : Int32), ρ_301))) else some ((0 : Int32), ρ_301))) else some ((0 : Int32), ρ_282))) else some ((0 : Int32), ρ_282)) fun v_293 ρ_294 => (if ¬ (v_293 = 0 ∨ v_293 = 1) then none else some (v_293, σ_291, ρ_294))))) else (bnd2 (f_L_done (6 : Int32) a2 o_x (0 : Int32) σ) fun r_309 σ_310 => (bnd (if r_309 = (-3 : Int32) then some ((1 : Int32)) else some ((0 : Int32))) fun v_312 => (if ¬ (v_312 = 0 ∨ v_312 = 1) then none else some (v_312, σ_310, ρ_9)))))
def mv7 (a2 a3 : Int32) (a4 a5 a6 : Nat) (σ : St) (r_2 r_8 o_x : Int32) (ρ_9 : St) : Option (Int32 × St × St) :=
  (if (r_8 + (r_2 / (2 : Int32))) ≤ (800 : Int32) then (bnd (f_L_moves_L207 a4 a5 r_2 r_8 FU (1 : Int32) ρ_9) fun ρ_203 => (bnd2 (f_L_done (7 : Int32) a2 o_x (0 : Int32) σ) fun r_211 σ_212 => (bnd2 (if r_211 = (r_2 / (2 : Int32)) then (bnd2 (f_L_sees o_x a6 σ_212 ρ_203) fun r_218 ρ_219 => (if r_218 = (r_8 + (r_2 / (2 : Int32))) then (bnd (f_L_isLike a5 a6 (r_8 + (r_2 / (2 : Int32))) ρ_219) fun r_222 => (if r_222 = 0 then some ((0 : Int32), ρ_219) else (bnd2 (f_L_sees a2 a6 σ_212 ρ_219) fun r_225 ρ_226 => (if r_225 = (r_2 - (r_2 / (2 : Int32))) then some ((1 : Int32), ρ_226) else some ((0 : Int32), ρ_226))))) else some ((0 : Int32), ρ_219))) else some ((0 : Int32), ρ_203)) fun v_214 ρ_215 => (bnd (f_L_moves_L315 a4 a6 r_2 ρ_215 FU v_214 (0 : Int32)) fun o_240 => (if ¬ (o_240 = 0 ∨ o_240 = 1) then none else some (o_240, σ_212, ρ_215)))))) else (bnd2 (f_L_done (7 : Int32) a2 o_x (0 : Int32) σ) fun r_257 σ_258 => (bnd (if r_257 = (-3 : Int32) then some ((1 : Int32)) else some ((0 : Int32))) fun v_260 => (if ¬ (v_260 = 0 ∨ v_260 = 1) then none else some (v_260, σ_258, ρ_9)))))
def mv8 (a2 a3 : Int32) (a4 a5 a6 : Nat) (σ : St) (r_2 r_8 o_x : Int32) (ρ_9 : St) : Option (Int32 × St × St) :=
  (bnd2 (f_L_done (8 : Int32) a2 (0 : Int32) (0 : Int32) σ) fun r_147 σ_148 => (bnd2 (if r_147 = r_2 then (bnd2 (f_L_sees a2 a6 σ_148 ρ_9) fun r_154 ρ_155 => (if r_154 = r_2 then some ((1 : Int32), ρ_155) else some ((0 : Int32), ρ_155))) else some ((0 : Int32), ρ_9)) fun v_150 ρ_151 => (bnd (f_L_moves_L409 a4 a6 r_2 ρ_151 FU v_150 (0 : Int32)) fun o_169 => (if ¬ (o_169 = 0 ∨ o_169 = 1) then none else some (o_169, σ_148, ρ_151)))))
def mv9 (a2 a3 : Int32) (a4 a5 a6 : Nat) (σ : St) (r_2 r_8 o_x : Int32) (ρ_9 : St) : Option (Int32 × St × St) :=
  (if r_2 = 0 then (bnd2 (f_L_done (9 : Int32) a2 (0 : Int32) (0 : Int32) σ) fun r_139 σ_140 => (bnd (if r_139 = (-1 : Int32) then some ((1 : Int32)) else some ((0 : Int32))) fun v_142 => (if ¬ (v_142 = 0 ∨ v_142 = 1) then none else some (v_142, σ_140, ρ_9)))) else (bnd2 (f_L_next ρ_9) fun r_76 ρ_77 => if r_2 = 0 then none else (bnd2 (f_L_next ρ_77) fun r_80 ρ_81 => if r_2 = 0 then none else (bnd2 (f_L_done (9 : Int32) a2 (r_76 - r_76 / r_2 * r_2) (r_80 - r_80 / r_2 * r_2) σ) fun r_84 σ_85 => if (r_76 - r_76 / r_2 * r_2) < 0 ∨ 3200 ≤ (r_76 - r_76 / r_2 * r_2).toNatClampNeg then none else (bnd2 (if r_84 = (gr ρ_81 (4 + 3 * a4 + 2) ((r_76 - r_76 / r_2 * r_2).toNatClampNeg)) then (bnd2 (f_L_sees a2 a6 σ_85 ρ_81) fun r_92 ρ_93 => (if r_92 = r_2 then if (r_80 - r_80 / r_2 * r_2) < 0 ∨ 3200 ≤ (r_80 - r_80 / r_2 * r_2).toNatClampNeg then none else if (r_76 - r_76 / r_2 * r_2) < 0 ∨ 3200 ≤ (r_76 - r_76 / r_2 * r_2).toNatClampNeg then none else (if (gr ρ_93 (4 + 3 * a6 + 2) ((r_80 - r_80 / r_2 * r_2).toNatClampNeg)) = (gr ρ_93 (4 + 3 * a4 + 2) ((r_76 - r_76 / r_2 * r_2).toNatClampNeg)) then some ((1 : Int32), ρ_93) else some ((0 : Int32), ρ_93)) else some ((0 : Int32), ρ_93))) else some ((0 : Int32), ρ_81)) fun v_88 ρ_89 => (bnd (f_L_moves_L567 a4 a6 r_2 (r_76 - r_76 / r_2 * r_2) (r_80 - r_80 / r_2 * r_2) ρ_89 FU v_88 (0 : Int32)) fun o_112 => (if ¬ (o_112 = 0 ∨ o_112 = 1) then none else some (o_112, σ_85, ρ_89))))))))
def mv10 (a2 a3 : Int32) (a4 a5 a6 : Nat) (σ : St) (r_2 r_8 o_x : Int32) (ρ_9 : St) : Option (Int32 × St × St) :=
  (bnd2 (f_L_next ρ_9) fun r_15 ρ_16 => (bnd2 (f_L_moves_L671 a3 a4 a5 r_2 (r_15 - r_15 / (4 : Int32) * (4 : Int32)) FU (0 : Int32) (0 : Int32) ρ_16) fun o_36 ρ_35 => (bnd2 (f_L_done a3 a2 (r_15 - r_15 / (4 : Int32) * (4 : Int32)) (0 : Int32) σ) fun r_59 σ_60 => (bnd2 (if r_59 = (r_2 - o_36) then (bnd2 (f_L_sees a2 a6 σ_60 ρ_35) fun r_66 ρ_67 => (if r_66 = o_36 then (bnd (f_L_isLike a5 a6 o_36 ρ_67) fun r_70 => (if r_70 = 0 then some ((0 : Int32), ρ_67) else some ((1 : Int32), ρ_67))) else some ((0 : Int32), ρ_67))) else some ((0 : Int32), ρ_35)) fun v_62 ρ_63 => (if ¬ (v_62 = 0 ∨ v_62 = 1) then none else some (v_62, σ_60, ρ_63))))))
theorem moves_t (a2 a3 : Int32) (a4 a5 a6 : Nat) (σ ρ : St) : f_L_moves a2 a3 a4 a5 a6 σ ρ =
  (bnd2 (f_L_sees a2 a4 σ ρ) fun r_2 ρ_3 => (bnd2 (f_L_next ρ_3) fun r_5 ρ_6 => (bnd2 (f_L_sees (((a2 + (1 : Int32)) + (r_5 - r_5 / (3 : Int32) * (3 : Int32))) - ((a2 + (1 : Int32)) + (r_5 - r_5 / (3 : Int32) * (3 : Int32))) / (4 : Int32) * (4 : Int32)) a5 σ ρ_6) fun r_8 ρ_9 => (if a3 = (6 : Int32) then mv6 a2 a3 a4 a5 a6 σ r_2 r_8 (((a2 + (1 : Int32)) + (r_5 - r_5 / (3 : Int32) * (3 : Int32))) - ((a2 + (1 : Int32)) + (r_5 - r_5 / (3 : Int32) * (3 : Int32))) / (4 : Int32) * (4 : Int32)) ρ_9 else (if a3 = (7 : Int32) then mv7 a2 a3 a4 a5 a6 σ r_2 r_8 (((a2 + (1 : Int32)) + (r_5 - r_5 / (3 : Int32) * (3 : Int32))) - ((a2 + (1 : Int32)) + (r_5 - r_5 / (3 : Int32) * (3 : Int32))) / (4 : Int32) * (4 : Int32)) ρ_9 else (if a3 = (8 : Int32) then mv8 a2 a3 a4 a5 a6 σ r_2 r_8 (((a2 + (1 : Int32)) + (r_5 - r_5 / (3 : Int32) * (3 : Int32))) - ((a2 + (1 : Int32)) + (r_5 - r_5 / (3 : Int32) * (3 : Int32))) / (4 : Int32) * (4 : Int32)) ρ_9 else (if a3 = (9 : Int32) then mv9 a2 a3 a4 a5 a6 σ r_2 r_8 (((a2 + (1 : Int32)) + (r_5 - r_5 / (3 : Int32) * (3 : Int32))) - ((a2 + (1 : Int32)) + (r_5 - r_5 / (3 : Int32) * (3 : Int32))) / (4 : Int32) * (4 : Int32)) ρ_9 else mv10 a2 a3 a4 a5 a6 σ r_2 r_8 (((a2 + (1 : Int32)) + (r_5 - r_5 / (3 : Int32) * (3 : Int32))) - ((a2 + (1 : Int32)) + (r_5 - r_5 / (3 : Int32) * (3 : Int32))) / (4 : Int32) * (4 : Int32)) ρ_9))))))) := rfl
theorem catS_2 (σ : St) : cat2 "java/lang/IllegalArgumentException" "java/lang/IllegalStateException" (-2) (-3) (some (.inl zS, σ)) = some (-nI 3, σ) := by
  show (if zS = "java/lang/IllegalArgumentException" then some (-2, σ) else if zS = "java/lang/IllegalStateException" then some (-3, σ) else none) = some (-nI 3, σ)
  rw [if_neg (by decide), if_pos (show zS = "java/lang/IllegalStateException" from rfl)]; rfl
theorem ifS (x y : Option (Int32 × St)) : (if zS = "java/lang/IllegalStateException" then x else y) = x := if_pos rfl
theorem ifI (x y : Option (Int32 × St)) : (if zI = "java/lang/IndexOutOfBoundsException" then x else y) = x := if_pos rfl
theorem n3_neg : (-3 : Int32) = -nI 3 := rfl
section LZ
variable {a : AS} {R : QR} {σ ρ : St}
theorem L_mv6 (h : qIN a R σ) {r r2 g g' g2 : Nat} (a3 : Int32) (hn1 : g ≠ g') (hn3 : g' ≠ g2) (hr : r < 4) (hr2 : r2 < 4) (hne : r ≠ r2) (h1 : GD a g (R r) ρ) (h2 : GD a g' (R r2) ρ) :
    ∃ (σ' ρ' : St) (R' : QR), mv6 (nI r) a3 g g' g2 σ (nI (R r).length) (nI (R r2).length) (nI r2) ρ = some (nI 1, σ', ρ') ∧ qIN a R' σ' := by
  have hn := h.len hr
  have hn2 := h.len hr2
  have n6 : (6 : Int32) = nI 6 := rfl
  by_cases h8 : (R r).length + (R r2).length ≤ 800
  · obtain ⟨ρ1, a1, a2, a3'⟩ := cpB_L (a := a) (g := g) (g' := g') (L := R r) (M := R r2) (m := (R r2).length) hn1 hn rfl hn2 _ (fu := FU) (i := 0) h1 rfl (by unfold FU; omega) (Nat.zero_le _) (by
      rw [Nat.add_zero]
      exact GDn.ext (L := R r2) (n := (R r2).length) h2 (Nat.le_refl _) fun k hk => List.getElem?_append_left hk)
    obtain ⟨σ1, b1, b2⟩ := E_pour h hr hr2 hne h8
    have b3 : f_L_done (nI 6) (nI r) (nI r2) (nI 0) σ = some (nI ((R r).length + (R r2).length), σ1) := (dn_6 _ _ _ _).trans (by rw [b1]; rfl)
    have c1 := E_count b2 hr
    rw [qRs_e _ _ rfl, List.length_nil] at c1
    obtain ⟨ρ2, d1, d2, d3, d4⟩ := L_sees b2 hr2 g2 ρ1
    have eR : qRs (qRs R r2 (R r2 ++ R r)) r [] r2 = R r2 ++ R r := by rw [qRs_n _ _ (Ne.symm hne), qRs_e _ _ rfl]
    have hl : (R r2 ++ R r).length = (R r).length + (R r2).length := by rw [List.length_append]; omega
    rw [eR] at d1 d2
    have e1 := L_isLike (by omega) (a2.gf d3 hn3) d2
    rw [hl] at d1 e1
    refine ⟨σ1, ρ2, _, ?_, b2⟩
    unfold mv6
    rw [n6]
    simp (disch := omega) only [↓bnd_s, ↓bnd2_s, ↓bnd3_s, ↓bnd4_s, ↓bnd5_s, ↓bndR_l, ↓bndR_r, ↓bndX_l, ↓bndX_r, ↓bndQ_s, ↓bndQ2_s, bndQ_s, bndQ2_s, bnd_s, bnd2_s, bnd3_s, bnd4_s, bnd5_s, bndR_l, bndR_r, bndX_l, bndX_r, nq_lt, nq_le, nq_inj, nq_add, nq_mul, nq_sub, nq_div, nq_neg1, nq_clamp, nq_ne1, nq_le1, ne1_lt, n1_lt0, n1_lt, n1_ne, nz0, nz1, nz2, nz3, nz4, nz5, nz6, nz8, nz10, nz31, nz32, nz50, nz400, nz800, nz3200, nz20000, nlt_f, nlt_t, nle_f, nle_t, neq_f, neq_t, gi_si_e, gi_si_n, gp_sp_e, gp_sp_n, gr_sr_e, gr_sr_n, gi_sp, gi_sr, gp_si, gp_sr, gr_si, gr_sp, upd_e, upd_n, un_e, un_n, an_sn_e, an_sn_n, an_sm, an_sv, am_sn, am_sm_e, am_sm_n, am_sv, ai_sn, ai_sm, ai_sv_e, ai_sv_n, reduceIte, or_false, false_or, or_true, true_or, or_self, and_true, true_and, and_false, false_and, not_true_eq_false, not_false_eq_true, a1, b3, c1, d1, e1]
  · have b1 := E_pour_no h hr hr2 hne (by omega)
    have b3 : f_L_done (nI 6) (nI r) (nI r2) (nI 0) σ = some (-nI 3, σ) := (dn_6 _ _ _ _).trans (by rw [b1]; exact catS_2 σ)
    refine ⟨σ, ρ, R, ?_, h⟩
    unfold mv6
    rw [n6, n3_neg]
    simp (disch := omega) only [↓bnd_s, ↓bnd2_s, ↓bnd3_s, ↓bnd4_s, ↓bnd5_s, ↓bndR_l, ↓bndR_r, ↓bndX_l, ↓bndX_r, ↓bndQ_s, ↓bndQ2_s, bndQ_s, bndQ2_s, bnd_s, bnd2_s, bnd3_s, bnd4_s, bnd5_s, bndR_l, bndR_r, bndX_l, bndX_r, nq_lt, nq_le, nq_inj, nq_add, nq_mul, nq_sub, nq_div, nq_neg1, nq_clamp, nq_ne1, nq_le1, ne1_lt, n1_lt0, n1_lt, n1_ne, nz0, nz1, nz2, nz3, nz4, nz5, nz6, nz8, nz10, nz31, nz32, nz50, nz400, nz800, nz3200, nz20000, nlt_f, nlt_t, nle_f, nle_t, neq_f, neq_t, gi_si_e, gi_si_n, gp_sp_e, gp_sp_n, gr_sr_e, gr_sr_n, gi_sp, gi_sr, gp_si, gp_sr, gr_si, gr_sp, upd_e, upd_n, un_e, un_n, an_sn_e, an_sn_n, an_sm, an_sv, am_sn, am_sm_e, am_sm_n, am_sv, ai_sn, ai_sm, ai_sv_e, ai_sv_n, reduceIte, or_false, false_or, or_true, true_or, or_self, and_true, true_and, and_false, false_and, not_true_eq_false, not_false_eq_true, b3]
theorem odd_E (h : qIN a R σ) {r : Nat} (hr : r < 4) : seg (fun k => gr σ (16 + r + 16) (2 * k + 1)) 0 ((R r).length / 2) = odL (R r) := by
  unfold odL
  refine seg_congr fun k hk => ?_
  have e := h.at hr (k := 2 * (0 + k) + 1) (by omega)
  rw [gL_at (by omega)] at e
  exact (Option.some.inj e).symm
theorem even_E (h : qIN a R σ) {r : Nat} (hr : r < 4) : seg (fun k => gr σ (16 + r + 16) (2 * k)) 0 (((R r).length + 1) / 2) = evL (R r) := by
  unfold evL
  refine seg_congr fun k hk => ?_
  have e := h.at hr (k := 2 * (0 + k)) (by omega)
  rw [gL_at (by omega)] at e
  exact (Option.some.inj e).symm
theorem evC_L {g g2 : Nat} {L : List Int32} (hL : L.length ≤ 800) (h1 : GD a g L ρ) (h2 : GD a g2 (evL L) ρ) : ∀ (d : Nat) {fu i : Nat}, L.length - L.length / 2 - i = d → d < fu → i ≤ L.length - L.length / 2 → f_L_moves_L315 g g2 (nI L.length) ρ fu (nI 1) (nI i) = some (nI 1) := by
  intro d
  induction d with
  | zero =>
    intro fu i hd hf hi
    obtain ⟨fu, rfl⟩ : ∃ f, fu = f + 1 := ⟨fu - 1, by omega⟩
    unfold f_L_moves_L315; simp (disch := omega) only [↓bnd_s, ↓bnd2_s, ↓bnd3_s, ↓bnd4_s, ↓bnd5_s, ↓bndR_l, ↓bndR_r, ↓bndX_l, ↓bndX_r, ↓bndQ_s, ↓bndQ2_s, bndQ_s, bndQ2_s, bnd_s, bnd2_s, bnd3_s, bnd4_s, bnd5_s, bndR_l, bndR_r, bndX_l, bndX_r, nq_lt, nq_le, nq_inj, nq_add, nq_mul, nq_sub, nq_div, nq_neg1, nq_clamp, nq_ne1, nq_le1, ne1_lt, n1_lt0, n1_lt, n1_ne, nz0, nz1, nz2, nz3, nz4, nz5, nz6, nz8, nz10, nz31, nz32, nz50, nz400, nz800, nz3200, nz20000, nlt_f, nlt_t, nle_f, nle_t, neq_f, neq_t, gi_si_e, gi_si_n, gp_sp_e, gp_sp_n, gr_sr_e, gr_sr_n, gi_sp, gi_sr, gp_si, gp_sr, gr_si, gr_sp, upd_e, upd_n, un_e, un_n, an_sn_e, an_sn_n, an_sm, an_sv, am_sn, am_sm_e, am_sm_n, am_sv, ai_sn, ai_sm, ai_sv_e, ai_sv_n, reduceIte, or_false, false_or, or_true, true_or, or_self, and_true, true_and, and_false, false_and, not_true_eq_false, not_false_eq_true]
  | succ d ih =>
    intro fu i hd hf hi
    obtain ⟨fu, rfl⟩ : ∃ f, fu = f + 1 := ⟨fu - 1, by omega⟩
    have hx := gL_at (L := L) (k := 2 * i) (by omega)
    have hx2 : (evL L)[i]? = some (gL L (2 * i)) := by
      have := seg_get (fun k => gL L (2 * k)) ((L.length + 1) / 2) 0 i (by omega)
      rw [Nat.zero_add] at this
      exact this
    have hl : (evL L).length = (L.length + 1) / 2 := seg_len _ _ _
    have e1 : gr ρ (4 + 3 * g + 2) (2 * i) = gL L (2 * i) := h1 _ _ 2 (by omega) (by decide) hx
    have e2 : gr ρ (4 + 3 * g2 + 2) i = gL L (2 * i) := h2 _ _ 2 (by omega) (by decide) hx2
    have := ih (fu := fu) (i := i + 1) (by omega) (by omega) (by omega)
    unfold f_L_moves_L315; simp (disch := omega) only [↓bnd_s, ↓bnd2_s, ↓bnd3_s, ↓bnd4_s, ↓bnd5_s, ↓bndR_l, ↓bndR_r, ↓bndX_l, ↓bndX_r, ↓bndQ_s, ↓bndQ2_s, bndQ_s, bndQ2_s, bnd_s, bnd2_s, bnd3_s, bnd4_s, bnd5_s, bndR_l, bndR_r, bndX_l, bndX_r, nq_lt, nq_le, nq_inj, nq_add, nq_mul, nq_sub, nq_div, nq_neg1, nq_clamp, nq_ne1, nq_le1, ne1_lt, n1_lt0, n1_lt, n1_ne, nz0, nz1, nz2, nz3, nz4, nz5, nz6, nz8, nz10, nz31, nz32, nz50, nz400, nz800, nz3200, nz20000, nlt_f, nlt_t, nle_f, nle_t, neq_f, neq_t, gi_si_e, gi_si_n, gp_sp_e, gp_sp_n, gr_sr_e, gr_sr_n, gi_sp, gi_sr, gp_si, gp_sr, gr_si, gr_sp, upd_e, upd_n, un_e, un_n, an_sn_e, an_sn_n, an_sm, an_sv, am_sn, am_sm_e, am_sm_n, am_sv, ai_sn, ai_sm, ai_sv_e, ai_sv_n, reduceIte, or_false, false_or, or_true, true_or, or_self, and_true, true_and, and_false, false_and, not_true_eq_false, not_false_eq_true, e1, e2]; exact this
theorem L_mv7 (h : qIN a R σ) {r r2 g g' g2 : Nat} (a3 : Int32) (hn1 : g ≠ g') (hn2 : g ≠ g2) (hn3 : g' ≠ g2) (hr : r < 4) (hr2 : r2 < 4) (hne : r ≠ r2) (h1 : GD a g (R r) ρ) (h2 : GD a g' (R r2) ρ) :
    ∃ (σ' ρ' : St) (R' : QR), mv7 (nI r) a3 g g' g2 σ (nI (R r).length) (nI (R r2).length) (nI r2) ρ = some (nI 1, σ', ρ') ∧ qIN a R' σ' := by
  have hl := h.len hr
  have hl2 := h.len hr2
  have n7 : (7 : Int32) = nI 7 := rfl
  by_cases h8 : (R r2).length + (R r).length / 2 ≤ 800
  · obtain ⟨ρ1, a1, a2, a3'⟩ := cpC_L (a := a) (g := g) (g' := g') (L := R r) (M := R r2) (m := (R r2).length) hn1 hl rfl hl2 _ (fu := FU) (i := 0) h1 rfl (by unfold FU; omega) (Nat.zero_le _) (by
      rw [Nat.add_zero]
      exact GDn.ext (L := R r2) (n := (R r2).length) h2 (Nat.le_refl _) fun k hk => List.getElem?_append_left hk)
    rw [show 2 * 0 + 1 = 1 from rfl] at a1
    obtain ⟨σ1, b1, b2⟩ := E_deal h hr hr2 hne h8
    rw [odd_E h hr, even_E h hr] at b2
    have b3 : f_L_done (nI 7) (nI r) (nI r2) (nI 0) σ = some (nI ((R r).length / 2), σ1) := (dn_7 _ _ _ _).trans (by rw [b1]; rfl)
    obtain ⟨ρ2, d1, d2, d3, d4⟩ := L_sees b2 hr2 g2 ρ1
    have eR : qRs (qRs R r2 (R r2 ++ odL (R r))) r (evL (R r)) r2 = R r2 ++ odL (R r) := by rw [qRs_n _ _ (Ne.symm hne), qRs_e _ _ rfl]
    have hlo : (R r2 ++ odL (R r)).length = (R r2).length + (R r).length / 2 := by rw [List.length_append]; unfold odL; rw [seg_len]
    rw [eR] at d1 d2
    have e1 := L_isLike (by omega) (a2.gf d3 hn3) d2
    rw [hlo] at d1 e1
    obtain ⟨ρ3, f1, f2, f3, f4⟩ := L_sees b2 hr g2 ρ2
    rw [qRs_e _ _ rfl] at f1 f2
    have hle : (evL (R r)).length = (R r).length - (R r).length / 2 := by unfold evL; rw [seg_len]; omega
    rw [hle] at f1
    have g1 := evC_L (ρ := ρ3) (g := g) (g2 := g2) hl (((h1.gf a3' hn1).gf d3 hn2).gf f3 hn2) f2 _ (fu := FU) (i := 0) rfl (by unfold FU; omega) (Nat.zero_le _)
    refine ⟨σ1, ρ3, _, ?_, b2⟩
    unfold mv7
    rw [n7]
    simp (disch := omega) only [↓bnd_s, ↓bnd2_s, ↓bnd3_s, ↓bnd4_s, ↓bnd5_s, ↓bndR_l, ↓bndR_r, ↓bndX_l, ↓bndX_r, ↓bndQ_s, ↓bndQ2_s, bndQ_s, bndQ2_s, bnd_s, bnd2_s, bnd3_s, bnd4_s, bnd5_s, bndR_l, bndR_r, bndX_l, bndX_r, nq_lt, nq_le, nq_inj, nq_add, nq_mul, nq_sub, nq_div, nq_neg1, nq_clamp, nq_ne1, nq_le1, ne1_lt, n1_lt0, n1_lt, n1_ne, nz0, nz1, nz2, nz3, nz4, nz5, nz6, nz8, nz10, nz31, nz32, nz50, nz400, nz800, nz3200, nz20000, nlt_f, nlt_t, nle_f, nle_t, neq_f, neq_t, gi_si_e, gi_si_n, gp_sp_e, gp_sp_n, gr_sr_e, gr_sr_n, gi_sp, gi_sr, gp_si, gp_sr, gr_si, gr_sp, upd_e, upd_n, un_e, un_n, an_sn_e, an_sn_n, an_sm, an_sv, am_sn, am_sm_e, am_sm_n, am_sv, ai_sn, ai_sm, ai_sv_e, ai_sv_n, reduceIte, or_false, false_or, or_true, true_or, or_self, and_true, true_and, and_false, false_and, not_true_eq_false, not_false_eq_true, a1, b3, d1, e1, f1, g1]
  · have b1 := E_deal_no h hr hr2 hne (by omega)
    have b3 : f_L_done (nI 7) (nI r) (nI r2) (nI 0) σ = some (-nI 3, σ) := (dn_7 _ _ _ _).trans (by
      rw [b1]
      show (if zS = "java/lang/IllegalStateException" then some (-3, σ) else none) = some (-nI 3, σ)
      rw [ifS]; rfl)
    refine ⟨σ, ρ, R, ?_, h⟩
    unfold mv7
    rw [n7, n3_neg]
    simp (disch := omega) only [↓bnd_s, ↓bnd2_s, ↓bnd3_s, ↓bnd4_s, ↓bnd5_s, ↓bndR_l, ↓bndR_r, ↓bndX_l, ↓bndX_r, ↓bndQ_s, ↓bndQ2_s, bndQ_s, bndQ2_s, bnd_s, bnd2_s, bnd3_s, bnd4_s, bnd5_s, bndR_l, bndR_r, bndX_l, bndX_r, nq_lt, nq_le, nq_inj, nq_add, nq_mul, nq_sub, nq_div, nq_neg1, nq_clamp, nq_ne1, nq_le1, ne1_lt, n1_lt0, n1_lt, n1_ne, nz0, nz1, nz2, nz3, nz4, nz5, nz6, nz8, nz10, nz31, nz32, nz50, nz400, nz800, nz3200, nz20000, nlt_f, nlt_t, nle_f, nle_t, neq_f, neq_t, gi_si_e, gi_si_n, gp_sp_e, gp_sp_n, gr_sr_e, gr_sr_n, gi_sp, gi_sr, gp_si, gp_sr, gr_si, gr_sp, upd_e, upd_n, un_e, un_n, an_sn_e, an_sn_n, an_sm, an_sv, am_sn, am_sm_e, am_sm_n, am_sv, ai_sn, ai_sm, ai_sv_e, ai_sv_n, reduceIte, or_false, false_or, or_true, true_or, or_self, and_true, true_and, and_false, false_and, not_true_eq_false, not_false_eq_true, b3]
theorem rvC_L {g g2 : Nat} {L : List Int32} (hL : L.length ≤ 800) (h1 : GD a g L ρ) (h2 : GD a g2 L.reverse ρ) : ∀ (d : Nat) {fu i : Nat}, L.length - i = d → d < fu → i ≤ L.length → f_L_moves_L409 g g2 (nI L.length) ρ fu (nI 1) (nI i) = some (nI 1) := by
  intro d
  induction d with
  | zero =>
    intro fu i hd hf hi
    obtain ⟨fu, rfl⟩ : ∃ f, fu = f + 1 := ⟨fu - 1, by omega⟩
    unfold f_L_moves_L409; simp (disch := omega) only [↓bnd_s, ↓bnd2_s, ↓bnd3_s, ↓bnd4_s, ↓bnd5_s, ↓bndR_l, ↓bndR_r, ↓bndX_l, ↓bndX_r, ↓bndQ_s, ↓bndQ2_s, bndQ_s, bndQ2_s, bnd_s, bnd2_s, bnd3_s, bnd4_s, bnd5_s, bndR_l, bndR_r, bndX_l, bndX_r, nq_lt, nq_le, nq_inj, nq_add, nq_mul, nq_sub, nq_div, nq_neg1, nq_clamp, nq_ne1, nq_le1, ne1_lt, n1_lt0, n1_lt, n1_ne, nz0, nz1, nz2, nz3, nz4, nz5, nz6, nz8, nz10, nz31, nz32, nz50, nz400, nz800, nz3200, nz20000, nlt_f, nlt_t, nle_f, nle_t, neq_f, neq_t, gi_si_e, gi_si_n, gp_sp_e, gp_sp_n, gr_sr_e, gr_sr_n, gi_sp, gi_sr, gp_si, gp_sr, gr_si, gr_sp, upd_e, upd_n, un_e, un_n, an_sn_e, an_sn_n, an_sm, an_sv, am_sn, am_sm_e, am_sm_n, am_sv, ai_sn, ai_sm, ai_sv_e, ai_sv_n, reduceIte, or_false, false_or, or_true, true_or, or_self, and_true, true_and, and_false, false_and, not_true_eq_false, not_false_eq_true]
  | succ d ih =>
    intro fu i hd hf hi
    obtain ⟨fu, rfl⟩ : ∃ f, fu = f + 1 := ⟨fu - 1, by omega⟩
    have hx := gL_at (L := L) (k := L.length - 1 - i) (by omega)
    have hx2 : L.reverse[i]? = some (gL L (L.length - 1 - i)) := by rw [List.getElem?_reverse (by omega)]; exact hx
    have e1 : gr ρ (4 + 3 * g + 2) (L.length - 1 - i) = gL L (L.length - 1 - i) := h1 _ _ 2 (by omega) (by decide) hx
    have e2 : gr ρ (4 + 3 * g2 + 2) i = gL L (L.length - 1 - i) := h2 _ _ 2 (by rw [List.length_reverse]; omega) (by decide) hx2
    have := ih (fu := fu) (i := i + 1) (by omega) (by omega) (by omega)
    unfold f_L_moves_L409; simp (disch := omega) only [↓bnd_s, ↓bnd2_s, ↓bnd3_s, ↓bnd4_s, ↓bnd5_s, ↓bndR_l, ↓bndR_r, ↓bndX_l, ↓bndX_r, ↓bndQ_s, ↓bndQ2_s, bndQ_s, bndQ2_s, bnd_s, bnd2_s, bnd3_s, bnd4_s, bnd5_s, bndR_l, bndR_r, bndX_l, bndX_r, nq_lt, nq_le, nq_inj, nq_add, nq_mul, nq_sub, nq_div, nq_neg1, nq_clamp, nq_ne1, nq_le1, ne1_lt, n1_lt0, n1_lt, n1_ne, nz0, nz1, nz2, nz3, nz4, nz5, nz6, nz8, nz10, nz31, nz32, nz50, nz400, nz800, nz3200, nz20000, nlt_f, nlt_t, nle_f, nle_t, neq_f, neq_t, gi_si_e, gi_si_n, gp_sp_e, gp_sp_n, gr_sr_e, gr_sr_n, gi_sp, gi_sr, gp_si, gp_sr, gr_si, gr_sp, upd_e, upd_n, un_e, un_n, an_sn_e, an_sn_n, an_sm, an_sv, am_sn, am_sm_e, am_sm_n, am_sv, ai_sn, ai_sm, ai_sv_e, ai_sv_n, reduceIte, or_false, false_or, or_true, true_or, or_self, and_true, true_and, and_false, false_and, not_true_eq_false, not_false_eq_true, e1, e2]; exact this
theorem L_mv8 (h : qIN a R σ) {r g g' g2 : Nat} (a3 x8 ox : Int32) (hn2 : g ≠ g2) (hr : r < 4) (h1 : GD a g (R r) ρ) :
    ∃ (σ' ρ' : St) (R' : QR), mv8 (nI r) a3 g g' g2 σ (nI (R r).length) x8 ox ρ = some (nI 1, σ', ρ') ∧ qIN a R' σ' := by
  have hl := h.len hr
  have n8 : (8 : Int32) = nI 8 := rfl
  obtain ⟨σ1, b1, b2⟩ := E_turn h hr
  have b3 : f_L_done (nI 8) (nI r) (nI 0) (nI 0) σ = some (nI (R r).length, σ1) := (dn_8 _ _ _ _).trans (by rw [b1]; rfl)
  obtain ⟨ρ1, d1, d2, d3, d4⟩ := L_sees b2 hr g2 ρ
  rw [qRs_e _ _ rfl] at d1 d2
  rw [List.length_reverse] at d1
  have g1 := rvC_L (ρ := ρ1) (g := g) (g2 := g2) hl (h1.gf d3 hn2) d2 _ (fu := FU) (i := 0) rfl (by unfold FU; omega) (Nat.zero_le _)
  refine ⟨σ1, ρ1, _, ?_, b2⟩
  unfold mv8
  rw [n8]
  obtain ⟨F, hF⟩ : ∃ z, z = FU := ⟨_, rfl⟩
  obtain ⟨S, hS⟩ : ∃ z, z = f_L_sees := ⟨_, rfl⟩
  obtain ⟨D, hD⟩ : ∃ z, z = f_L_done := ⟨_, rfl⟩
  rw [← hF] at g1
  rw [← hS] at d1
  rw [← hD] at b3
  rw [← hF, ← hS, ← hD]
  simp (disch := omega) only [↓bnd_s, ↓bnd2_s, ↓bnd3_s, ↓bnd4_s, ↓bnd5_s, ↓bndR_l, ↓bndR_r, ↓bndX_l, ↓bndX_r, ↓bndQ_s, ↓bndQ2_s, bndQ_s, bndQ2_s, bnd_s, bnd2_s, bnd3_s, bnd4_s, bnd5_s, bndR_l, bndR_r, bndX_l, bndX_r, nq_lt, nq_le, nq_inj, nq_add, nq_mul, nq_sub, nq_div, nq_neg1, nq_clamp, nq_ne1, nq_le1, ne1_lt, n1_lt0, n1_lt, n1_ne, nz0, nz1, nz2, nz3, nz4, nz5, nz6, nz8, nz10, nz31, nz32, nz50, nz400, nz800, nz3200, nz20000, nlt_f, nlt_t, nle_f, nle_t, neq_f, neq_t, gi_si_e, gi_si_n, gp_sp_e, gp_sp_n, gr_sr_e, gr_sr_n, gi_sp, gi_sr, gp_si, gp_sr, gr_si, gr_sp, upd_e, upd_n, un_e, un_n, an_sn_e, an_sn_n, an_sm, an_sv, am_sn, am_sm_e, am_sm_n, am_sv, ai_sn, ai_sm, ai_sv_e, ai_sv_n, reduceIte, or_false, false_or, or_true, true_or, or_self, and_true, true_and, and_false, false_and, not_true_eq_false, not_false_eq_true, b3, d1, g1]
theorem mvC_L {g g2 p q : Nat} {L L' : List Int32} (hL : L.length ≤ 800) (hp : p < L.length) (hq : q < L.length) (hl : L'.length = L.length) (h1 : GD a g L ρ) (h2 : GD a g2 L' ρ) (hm : ∀ k, k < L.length → gL L' k = mvF (gL L) p q k) : ∀ (d : Nat) {fu i : Nat}, L.length - i = d → d < fu → i ≤ L.length → f_L_moves_L567 g g2 (nI L.length) (nI p) (nI q) ρ fu (nI 1) (nI i) = some (nI 1) := by
  have w1 : ∀ k, k < L.length → gr ρ (4 + 3 * g + 2) k = gL L k := fun k hk => h1 _ _ 2 hk (by decide) (gL_at hk)
  have w2 : ∀ k, k < L.length → gr ρ (4 + 3 * g2 + 2) k = mvF (gL L) p q k := fun k hk => by rw [← hm k hk]; exact h2 _ _ 2 (by omega) (by decide) (gL_at (by omega))
  intro d
  induction d with
  | zero =>
    intro fu i hd hf hi
    obtain ⟨fu, rfl⟩ : ∃ f, fu = f + 1 := ⟨fu - 1, by omega⟩
    unfold f_L_moves_L567; simp (disch := omega) only [↓bnd_s, ↓bnd2_s, ↓bnd3_s, ↓bnd4_s, ↓bnd5_s, ↓bndR_l, ↓bndR_r, ↓bndX_l, ↓bndX_r, ↓bndQ_s, ↓bndQ2_s, bndQ_s, bndQ2_s, bnd_s, bnd2_s, bnd3_s, bnd4_s, bnd5_s, bndR_l, bndR_r, bndX_l, bndX_r, nq_lt, nq_le, nq_inj, nq_add, nq_mul, nq_sub, nq_div, nq_neg1, nq_clamp, nq_ne1, nq_le1, ne1_lt, n1_lt0, n1_lt, n1_ne, nz0, nz1, nz2, nz3, nz4, nz5, nz6, nz8, nz10, nz31, nz32, nz50, nz400, nz800, nz3200, nz20000, nlt_f, nlt_t, nle_f, nle_t, neq_f, neq_t, gi_si_e, gi_si_n, gp_sp_e, gp_sp_n, gr_sr_e, gr_sr_n, gi_sp, gi_sr, gp_si, gp_sr, gr_si, gr_sp, upd_e, upd_n, un_e, un_n, an_sn_e, an_sn_n, an_sm, an_sv, am_sn, am_sm_e, am_sm_n, am_sv, ai_sn, ai_sm, ai_sv_e, ai_sv_n, reduceIte, or_false, false_or, or_true, true_or, or_self, and_true, true_and, and_false, false_and, not_true_eq_false, not_false_eq_true]
  | succ d ih =>
    intro fu i hd hf hi
    obtain ⟨fu, rfl⟩ : ∃ f, fu = f + 1 := ⟨fu - 1, by omega⟩
    have this := ih (fu := fu) (i := i + 1) (by omega) (by omega) (by omega)
    unfold f_L_moves_L567
    by_cases c1 : i = p
    · simp (disch := omega) only [↓bnd_s, ↓bnd2_s, ↓bnd3_s, ↓bnd4_s, ↓bnd5_s, ↓bndR_l, ↓bndR_r, ↓bndX_l, ↓bndX_r, ↓bndQ_s, ↓bndQ2_s, bndQ_s, bndQ2_s, bnd_s, bnd2_s, bnd3_s, bnd4_s, bnd5_s, bndR_l, bndR_r, bndX_l, bndX_r, nq_lt, nq_le, nq_inj, nq_add, nq_mul, nq_sub, nq_div, nq_neg1, nq_clamp, nq_ne1, nq_le1, ne1_lt, n1_lt0, n1_lt, n1_ne, nz0, nz1, nz2, nz3, nz4, nz5, nz6, nz8, nz10, nz31, nz32, nz50, nz400, nz800, nz3200, nz20000, nlt_f, nlt_t, nle_f, nle_t, neq_f, neq_t, gi_si_e, gi_si_n, gp_sp_e, gp_sp_n, gr_sr_e, gr_sr_n, gi_sp, gi_sr, gp_si, gp_sr, gr_si, gr_sp, upd_e, upd_n, un_e, un_n, an_sn_e, an_sn_n, an_sm, an_sv, am_sn, am_sm_e, am_sm_n, am_sv, ai_sn, ai_sm, ai_sv_e, ai_sv_n, reduceIte, or_false, false_or, or_true, true_or, or_self, and_true, true_and, and_false, false_and, not_true_eq_false, not_false_eq_true, c1]; rw [c1] at this; exact this
    · have e1 := w1 i (by omega)
      by_cases c2 : p < i ∧ i ≤ q
      · have e2 := w2 (i - 1) (by omega)
        unfold mvF at e2
        rw [if_neg (by omega), if_pos (by omega), show i - 1 + 1 = i by omega] at e2
        have x1 : ¬ nI i = nI p := by rw [nq_inj (by omega) (by omega)]; omega
        have x2 : ¬ nI i ≤ nI p := by rw [nq_le (by omega) (by omega)]; omega
        have x3 : ¬ nI q < nI i := by rw [nq_lt (by omega) (by omega)]; omega
        have x4 : nI i + (-1 : Int32) = nI (i - 1) := nq_neg1 (by omega)
        rw [if_neg (show ¬ nI L.length ≤ nI i by rw [nq_le (by omega) (by omega)]; omega), if_neg n10, if_neg x1, if_neg x2, if_neg x3, bnd_s, x4]
        simp (disch := omega) only [↓bnd_s, ↓bnd2_s, ↓bnd3_s, ↓bnd4_s, ↓bnd5_s, ↓bndR_l, ↓bndR_r, ↓bndX_l, ↓bndX_r, ↓bndQ_s, ↓bndQ2_s, bndQ_s, bndQ2_s, bnd_s, bnd2_s, bnd3_s, bnd4_s, bnd5_s, bndR_l, bndR_r, bndX_l, bndX_r, nq_lt, nq_le, nq_inj, nq_add, nq_mul, nq_sub, nq_div, nq_neg1, nq_clamp, nq_ne1, nq_le1, ne1_lt, n1_lt0, n1_lt, n1_ne, nz0, nz1, nz2, nz3, nz4, nz5, nz6, nz8, nz10, nz31, nz32, nz50, nz400, nz800, nz3200, nz20000, nlt_f, nlt_t, nle_f, nle_t, neq_f, neq_t, gi_si_e, gi_si_n, gp_sp_e, gp_sp_n, gr_sr_e, gr_sr_n, gi_sp, gi_sr, gp_si, gp_sr, gr_si, gr_sp, upd_e, upd_n, un_e, un_n, an_sn_e, an_sn_n, an_sm, an_sv, am_sn, am_sm_e, am_sm_n, am_sv, ai_sn, ai_sm, ai_sv_e, ai_sv_n, reduceIte, or_false, false_or, or_true, true_or, or_self, and_true, true_and, and_false, false_and, not_true_eq_false, not_false_eq_true, e1, e2]; exact this
      · by_cases c3 : i < p ∧ q ≤ i
        · have e2 := w2 (i + 1) (by omega)
          unfold mvF at e2
          rw [if_neg (by omega), if_neg (by omega), if_pos (by omega), show i + 1 - 1 = i by omega] at e2
          simp (disch := omega) only [↓bnd_s, ↓bnd2_s, ↓bnd3_s, ↓bnd4_s, ↓bnd5_s, ↓bndR_l, ↓bndR_r, ↓bndX_l, ↓bndX_r, ↓bndQ_s, ↓bndQ2_s, bndQ_s, bndQ2_s, bnd_s, bnd2_s, bnd3_s, bnd4_s, bnd5_s, bndR_l, bndR_r, bndX_l, bndX_r, nq_lt, nq_le, nq_inj, nq_add, nq_mul, nq_sub, nq_div, nq_neg1, nq_clamp, nq_ne1, nq_le1, ne1_lt, n1_lt0, n1_lt, n1_ne, nz0, nz1, nz2, nz3, nz4, nz5, nz6, nz8, nz10, nz31, nz32, nz50, nz400, nz800, nz3200, nz20000, nlt_f, nlt_t, nle_f, nle_t, neq_f, neq_t, gi_si_e, gi_si_n, gp_sp_e, gp_sp_n, gr_sr_e, gr_sr_n, gi_sp, gi_sr, gp_si, gp_sr, gr_si, gr_sp, upd_e, upd_n, un_e, un_n, an_sn_e, an_sn_n, an_sm, an_sv, am_sn, am_sm_e, am_sm_n, am_sv, ai_sn, ai_sm, ai_sv_e, ai_sv_n, reduceIte, or_false, false_or, or_true, true_or, or_self, and_true, true_and, and_false, false_and, not_true_eq_false, not_false_eq_true, c1, e1, e2]; exact this
        · have e2 := w2 i (by omega)
          unfold mvF at e2
          rw [if_neg (by omega), if_neg (by omega), if_neg (by omega)] at e2
          by_cases c4 : i < p
          · simp (disch := omega) only [↓bnd_s, ↓bnd2_s, ↓bnd3_s, ↓bnd4_s, ↓bnd5_s, ↓bndR_l, ↓bndR_r, ↓bndX_l, ↓bndX_r, ↓bndQ_s, ↓bndQ2_s, bndQ_s, bndQ2_s, bnd_s, bnd2_s, bnd3_s, bnd4_s, bnd5_s, bndR_l, bndR_r, bndX_l, bndX_r, nq_lt, nq_le, nq_inj, nq_add, nq_mul, nq_sub, nq_div, nq_neg1, nq_clamp, nq_ne1, nq_le1, ne1_lt, n1_lt0, n1_lt, n1_ne, nz0, nz1, nz2, nz3, nz4, nz5, nz6, nz8, nz10, nz31, nz32, nz50, nz400, nz800, nz3200, nz20000, nlt_f, nlt_t, nle_f, nle_t, neq_f, neq_t, gi_si_e, gi_si_n, gp_sp_e, gp_sp_n, gr_sr_e, gr_sr_n, gi_sp, gi_sr, gp_si, gp_sr, gr_si, gr_sp, upd_e, upd_n, un_e, un_n, an_sn_e, an_sn_n, an_sm, an_sv, am_sn, am_sm_e, am_sm_n, am_sv, ai_sn, ai_sm, ai_sv_e, ai_sv_n, reduceIte, or_false, false_or, or_true, true_or, or_self, and_true, true_and, and_false, false_and, not_true_eq_false, not_false_eq_true, c1, e1, e2, Nat.add_zero]; exact this
          · simp (disch := omega) only [↓bnd_s, ↓bnd2_s, ↓bnd3_s, ↓bnd4_s, ↓bnd5_s, ↓bndR_l, ↓bndR_r, ↓bndX_l, ↓bndX_r, ↓bndQ_s, ↓bndQ2_s, bndQ_s, bndQ2_s, bnd_s, bnd2_s, bnd3_s, bnd4_s, bnd5_s, bndR_l, bndR_r, bndX_l, bndX_r, nq_lt, nq_le, nq_inj, nq_add, nq_mul, nq_sub, nq_div, nq_neg1, nq_clamp, nq_ne1, nq_le1, ne1_lt, n1_lt0, n1_lt, n1_ne, nz0, nz1, nz2, nz3, nz4, nz5, nz6, nz8, nz10, nz31, nz32, nz50, nz400, nz800, nz3200, nz20000, nlt_f, nlt_t, nle_f, nle_t, neq_f, neq_t, gi_si_e, gi_si_n, gp_sp_e, gp_sp_n, gr_sr_e, gr_sr_n, gi_sp, gi_sr, gp_si, gp_sr, gr_si, gr_sp, upd_e, upd_n, un_e, un_n, an_sn_e, an_sn_n, an_sm, an_sv, am_sn, am_sm_e, am_sm_n, am_sv, ai_sn, ai_sm, ai_sv_e, ai_sv_n, reduceIte, or_false, false_or, or_true, true_or, or_self, and_true, true_and, and_false, false_and, not_true_eq_false, not_false_eq_true, c1, e1, e2, Nat.add_zero]; exact this
theorem L_mv9 (h : qIN a R σ) {r g g' g2 : Nat} (a3 x8 ox : Int32) (hn2 : g ≠ g2) (hr : r < 4) (h1 : GD a g (R r) ρ) :
    ∃ (σ' ρ' : St) (R' : QR), mv9 (nI r) a3 g g' g2 σ (nI (R r).length) x8 ox ρ = some (nI 1, σ', ρ') ∧ qIN a R' σ' := by
  have hl := h.len hr
  have n9 : (9 : Int32) = nI 9 := rfl
  by_cases h0 : (R r).length = 0
  · have b1 := E_move_no h hr h0
    have b3 : f_L_done (nI 9) (nI r) (nI 0) (nI 0) σ = some (-nI 1, σ) := (dn_9 _ _ _ _).trans (by
      rw [b1]
      show (if zI = "java/lang/IndexOutOfBoundsException" then some (-1, σ) else none) = some (-nI 1, σ)
      rw [ifI]; rfl)
    refine ⟨σ, ρ, R, ?_, h⟩
    unfold mv9
    rw [n9, if_pos (show nI (R r).length = (0 : Int32) by rw [h0]; rfl), show f_L_done (nI 9) (nI r) 0 0 σ = _ from b3, bnd2_s, if_pos (show -nI 1 = (-1 : Int32) from rfl), bnd_s]
    exact if_neg g11
  · obtain ⟨k1, ρ1, k2, k3, k4⟩ := L_next ρ
    obtain ⟨k5, ρ2, k6, k7, k8⟩ := L_next ρ1
    have hp := Nat.mod_lt k1 (show (R r).length > 0 by omega)
    have hq := Nat.mod_lt k5 (show (R r).length > 0 by omega)
    have r1 := rem_nI (k := k1) (n := (R r).length) (by omega) (by omega) (by omega)
    have r2 := rem_nI (k := k5) (n := (R r).length) (by omega) (by omega) (by omega)
    obtain ⟨p, hpe⟩ : ∃ p, p = k1 % (R r).length := ⟨_, rfl⟩
    obtain ⟨q, hqe⟩ : ∃ q, q = k5 % (R r).length := ⟨_, rfl⟩
    rw [← hpe] at r1 hp
    rw [← hqe] at r2 hq
    have hG := (h1.rf k4).rf k8
    obtain ⟨σ1, b1, b2⟩ := E_move h hr hp hq
    have ex := h.at hr hp
    rw [gL_at hp] at ex
    rw [← Option.some.inj ex] at b1
    have b3 : f_L_done (nI 9) (nI r) (nI p) (nI q) σ = some (gL (R r) p, σ1) := (dn_9 _ _ _ _).trans (by rw [b1]; rfl)
    obtain ⟨ρ3, d1, d2, d3, d4⟩ := L_sees b2 hr g2 ρ2
    rw [qRs_e _ _ rfl] at d1 d2
    rw [seg_len] at d1
    obtain ⟨L', hL'⟩ : ∃ z, z = seg (mvF (gr σ (16 + r + 16)) p q) 0 (R r).length := ⟨_, rfl⟩
    rw [← hL'] at d2
    have hll : L'.length = (R r).length := by rw [hL', seg_len]
    have hv : ∀ k, k < (R r).length → gr σ (16 + r + 16) k = gL (R r) k := fun k hk => by
      have e := h.at hr hk
      rw [gL_at hk] at e
      exact (Option.some.inj e).symm
    have hm : ∀ k, k < (R r).length → gL L' k = mvF (gL (R r)) p q k := fun k hk => by
      have e := seg_get (mvF (gr σ (16 + r + 16)) p q) (R r).length 0 k hk
      rw [← hL', gL_at (by omega), Nat.zero_add] at e
      rw [Option.some.inj e]
      unfold mvF
      by_cases c1 : k = q
      · rw [if_pos c1, if_pos c1, hv p hp]
      · rw [if_neg c1, if_neg c1]
        by_cases c2 : p ≤ k ∧ k < q
        · rw [if_pos c2, if_pos c2, hv _ (by omega)]
        · rw [if_neg c2, if_neg c2]
          by_cases c3 : q < k ∧ k ≤ p
          · rw [if_pos c3, if_pos c3, hv _ (by omega)]
          · rw [if_neg c3, if_neg c3, hv _ hk]
    have hG3 := hG.gf d3 hn2
    have u1 : gr ρ2 (4 + 3 * g + 2) p = gL (R r) p := hG _ _ 2 hp (by decide) (gL_at hp)
    have u2 : gr ρ3 (4 + 3 * g + 2) p = gL (R r) p := hG3 _ _ 2 hp (by decide) (gL_at hp)
    have u3 : gr ρ3 (4 + 3 * g2 + 2) q = gL (R r) p := by
      have e := d2 q _ 2 (by omega) (by decide) (gL_at (show q < L'.length by omega))
      rw [qWf2, hm q hq] at e
      unfold mvF at e
      rw [if_pos rfl] at e
      exact e
    have g1 := mvC_L (ρ := ρ3) (g := g) (g2 := g2) hl hp hq hll hG3 d2 hm _ (fu := FU) (i := 0) rfl (by unfold FU; omega) (Nat.zero_le _)
    refine ⟨σ1, ρ3, _, ?_, b2⟩
    unfold mv9
    rw [n9]
    have h0' : ¬ nI (R r).length = (0 : Int32) := by rw [nz0, nq_inj (by omega) (by omega)]; exact h0
    obtain ⟨F, hF⟩ : ∃ z, z = FU := ⟨_, rfl⟩
    obtain ⟨S, hS⟩ : ∃ z, z = f_L_sees := ⟨_, rfl⟩
    obtain ⟨D, hD⟩ : ∃ z, z = f_L_done := ⟨_, rfl⟩
    rw [← hF] at g1
    rw [← hS] at d1
    rw [← hD] at b3
    rw [← hF, ← hS, ← hD, if_neg h0', k3, bnd2_s, if_neg h0', k7, bnd2_s, if_neg h0', r1, r2]
    simp (disch := omega) only [↓bnd_s, ↓bnd2_s, ↓bnd3_s, ↓bnd4_s, ↓bnd5_s, ↓bndR_l, ↓bndR_r, ↓bndX_l, ↓bndX_r, ↓bndQ_s, ↓bndQ2_s, bndQ_s, bndQ2_s, bnd_s, bnd2_s, bnd3_s, bnd4_s, bnd5_s, bndR_l, bndR_r, bndX_l, bndX_r, nq_lt, nq_le, nq_inj, nq_add, nq_mul, nq_sub, nq_div, nq_neg1, nq_clamp, nq_ne1, nq_le1, ne1_lt, n1_lt0, n1_lt, n1_ne, nz0, nz1, nz2, nz3, nz4, nz5, nz6, nz8, nz10, nz31, nz32, nz50, nz400, nz800, nz3200, nz20000, nlt_f, nlt_t, nle_f, nle_t, neq_f, neq_t, gi_si_e, gi_si_n, gp_sp_e, gp_sp_n, gr_sr_e, gr_sr_n, gi_sp, gi_sr, gp_si, gp_sr, gr_si, gr_sp, upd_e, upd_n, un_e, un_n, an_sn_e, an_sn_n, an_sm, an_sv, am_sn, am_sm_e, am_sm_n, am_sv, ai_sn, ai_sm, ai_sv_e, ai_sv_n, reduceIte, or_false, false_or, or_true, true_or, or_self, and_true, true_and, and_false, false_and, not_true_eq_false, not_false_eq_true, b3, u1, d1, u2, u3, g1]
theorem L_mv10 (h : qIN a R σ) {r what g g' g2 : Nat} (x8 ox : Int32) (hn1 : g ≠ g') (hn3 : g' ≠ g2) (hw : what = 10 ∨ what = 11) (hr : r < 4) (h1 : GD a g (R r) ρ) :
    ∃ (σ' ρ' : St) (R' : QR), mv10 (nI r) (nI what) g g' g2 σ (nI (R r).length) x8 ox ρ = some (nI 1, σ', ρ') ∧ qIN a R' σ' := by
  have hl := h.len hr
  obtain ⟨k1, ρ1, k2, k3, k4⟩ := L_next ρ
  have r1 := rem_nI (k := k1) (n := 4) (by omega) (by omega) (by omega)
  obtain ⟨s, hs⟩ : ∃ s, s = nI (k1 % 4) := ⟨_, rfl⟩
  rw [← hs] at r1
  obtain ⟨ρ2, a1, a2, a3⟩ := thinL (a := a) (g := g) (g' := g') (what := what) (s := s) (L := R r) hn1 hw hl _ (fu := FU) (i := 0) (h1.rf k4) rfl (by unfold FU; omega) (Nat.zero_le _) (by
    rw [List.take_zero]
    have e : stL a what s [] = [] := by unfold stL; split <;> rfl
    rw [e]
    exact fun k x w hk => absurd hk (Nat.not_lt_zero _))
  rw [List.take_zero, show stL a what s [] = [] by unfold stL; split <;> rfl, List.length_nil] at a1
  have hsl := stL_len (a := a) what s (R r)
  obtain ⟨σ1, b1, b2⟩ : ∃ σ1, f_L_done (nI what) (nI r) s (nI 0) σ = some (nI ((R r).length - (stL a what s (R r)).length), σ1) ∧ qIN a (qRs R r (stL a what s (R r))) σ1 := by
    rcases hw with rfl | rfl
    · obtain ⟨σ1, b1, b2⟩ := E_thin h hr s
      exact ⟨σ1, (dn_10 _ _ _ _).trans (by rw [b1]; rfl), b2⟩
    · obtain ⟨σ1, b1, b2⟩ := E_single h hr
      exact ⟨σ1, (dn_11 _ _ _ _).trans (by rw [b1]; rfl), b2⟩
  obtain ⟨ρ3, d1, d2, d3, d4⟩ := L_sees b2 hr g2 ρ2
  rw [qRs_e _ _ rfl] at d1 d2
  have e1 := L_isLike (by omega) (a2.gf d3 hn3) d2
  refine ⟨σ1, ρ3, _, ?_, b2⟩
  unfold mv10
  have e4 : nI (k1 - k1 / 4 * 4) = s := by rw [hs, md_eq]
  obtain ⟨F, hF⟩ : ∃ z, z = FU := ⟨_, rfl⟩
  obtain ⟨S, hS⟩ : ∃ z, z = f_L_sees := ⟨_, rfl⟩
  obtain ⟨D, hD⟩ : ∃ z, z = f_L_done := ⟨_, rfl⟩
  obtain ⟨I, hI⟩ : ∃ z, z = f_L_isLike := ⟨_, rfl⟩
  rw [← hF] at a1
  rw [← hS] at d1
  rw [← hD] at b1
  rw [← hI] at e1
  rw [← hF, ← hS, ← hD, ← hI]
  simp (disch := omega) only [↓bnd_s, ↓bnd2_s, ↓bnd3_s, ↓bnd4_s, ↓bnd5_s, ↓bndR_l, ↓bndR_r, ↓bndX_l, ↓bndX_r, ↓bndQ_s, ↓bndQ2_s, bndQ_s, bndQ2_s, bnd_s, bnd2_s, bnd3_s, bnd4_s, bnd5_s, bndR_l, bndR_r, bndX_l, bndX_r, nq_lt, nq_le, nq_inj, nq_add, nq_mul, nq_sub, nq_div, nq_neg1, nq_clamp, nq_ne1, nq_le1, ne1_lt, n1_lt0, n1_lt, n1_ne, nz0, nz1, nz2, nz3, nz4, nz5, nz6, nz8, nz10, nz31, nz32, nz50, nz400, nz800, nz3200, nz20000, nlt_f, nlt_t, nle_f, nle_t, neq_f, neq_t, gi_si_e, gi_si_n, gp_sp_e, gp_sp_n, gr_sr_e, gr_sr_n, gi_sp, gi_sr, gp_si, gp_sr, gr_si, gr_sp, upd_e, upd_n, un_e, un_n, an_sn_e, an_sn_n, an_sm, an_sv, am_sn, am_sm_e, am_sm_n, am_sv, ai_sn, ai_sm, ai_sv_e, ai_sv_n, reduceIte, or_false, false_or, or_true, true_or, or_self, and_true, true_and, and_false, false_and, not_true_eq_false, not_false_eq_true, k3, e4, a1, b1, d1, e1]
theorem L_moves (h : qIN a R σ) {r what g g' g2 : Nat} (hn1 : g ≠ g') (hn2 : g ≠ g2) (hn3 : g' ≠ g2) (hr : r < 4) (hw : 6 ≤ what) (hw2 : what ≤ 11) (ρ : St) :
    ∃ (σ' ρ' : St) (R' : QR), f_L_moves (nI r) (nI what) g g' g2 σ ρ = some (nI 1, σ', ρ') ∧ qIN a R' σ' := by
  have hn := h.len hr
  obtain ⟨ρ1, a1, a2, a3, a4⟩ := L_sees h hr g ρ
  obtain ⟨k1, ρ2, k2, k3, k4⟩ := L_next ρ1
  have ho := oth_nI hr k2
  obtain ⟨r2, hr2⟩ : ∃ r2, r2 = (r + 1 + k1 % 3) % 4 := ⟨_, rfl⟩
  rw [← hr2] at ho
  have hr4 : r2 < 4 := by omega
  have hne : r ≠ r2 := by omega
  obtain ⟨ρ3, b1, b2, b3, b4⟩ := L_sees h hr4 g' ρ2
  have hG := (a2.rf k4).gf b3 hn1
  rw [moves_t]
  rw [a1, bnd2_s, k3, bnd2_s, nz1, nz3, nz4, ho, b1, bnd2_s]
  rcases (show what = 6 ∨ what = 7 ∨ what = 8 ∨ what = 9 ∨ what = 10 ∨ what = 11 by omega) with rfl | rfl | rfl | rfl | rfl | rfl
  · rw [if_pos (show nI 6 = (6 : Int32) from rfl)]
    exact L_mv6 h _ hn1 hn3 hr hr4 hne hG b2
  · rw [if_neg (show ¬ nI 7 = (6 : Int32) by decide), if_pos (show nI 7 = (7 : Int32) from rfl)]
    exact L_mv7 h _ hn1 hn2 hn3 hr hr4 hne hG b2
  · rw [if_neg (show ¬ nI 8 = (6 : Int32) by decide), if_neg (show ¬ nI 8 = (7 : Int32) by decide), if_pos (show nI 8 = (8 : Int32) from rfl)]
    exact L_mv8 h _ _ _ hn2 hr hG
  · rw [if_neg (show ¬ nI 9 = (6 : Int32) by decide), if_neg (show ¬ nI 9 = (7 : Int32) by decide), if_neg (show ¬ nI 9 = (8 : Int32) by decide), if_pos (show nI 9 = (9 : Int32) from rfl)]
    exact L_mv9 h _ _ _ hn2 hr hG
  · rw [if_neg (show ¬ nI 10 = (6 : Int32) by decide), if_neg (show ¬ nI 10 = (7 : Int32) by decide), if_neg (show ¬ nI 10 = (8 : Int32) by decide), if_neg (show ¬ nI 10 = (9 : Int32) by decide)]
    exact L_mv10 h _ _ hn1 hn3 (Or.inl rfl) hr hG
  · rw [if_neg (show ¬ nI 11 = (6 : Int32) by decide), if_neg (show ¬ nI 11 = (7 : Int32) by decide), if_neg (show ¬ nI 11 = (8 : Int32) by decide), if_neg (show ¬ nI 11 = (9 : Int32) by decide)]
    exact L_mv10 h _ _ hn1 hn3 (Or.inr rfl) hr hG
/-- a card comes where it belongs -/
theorem L_from (x y : Int32) (hxy : ¬ (y - x) + (1 : Int32) = 0) (ρ : St) : ∃ (v : Int32) (ρ' : St), f_L_from x y ρ = some (v, ρ') ∧ rF ρ ρ' := by
  obtain ⟨k1, ρ1, k2, k3, k4⟩ := L_next ρ
  refine ⟨x + (nI k1 - nI k1 / ((y - x) + (1 : Int32)) * ((y - x) + (1 : Int32))), ρ1, ?_, k4⟩
  unfold f_L_from
  rw [k3, bnd2_s, if_neg hxy]
theorem L_comes (h : qIN a R σ) {r : Nat} (hr : r < 4) (h2 : an a 0 < 20000) (ρ : St) :
    ∃ (σ' ρ' : St) (a' : AS) (R' : QR), f_L_comes (nI r) σ ρ = some (nI 1, σ', ρ') ∧ qIN a' R' σ' ∧ an a' 0 ≤ an a 0 + 1 := by
  have hn := h.len hr
  have hm := h.m
  obtain ⟨x, ρ1, k1, k2⟩ := L_from (-40) 80 (by decide) ρ
  obtain ⟨o, o1, o2, o3, o4, o5⟩ := E_isSorted h hr
  by_cases hs : sortedK (ky a 0) (R r)
  · have oo := o4.mpr hs
    rw [if_pos oo] at o2
    obtain ⟨p, p1, p2, p3, p4⟩ := E_placeFor h hr x hs
    have d1 : f_L_done 14 (nI r) x (nI 0) σ = some (nI p, σ) := (dn_14 _ _ _ _).trans (by rw [p2]; rfl)
    have c1 := E_count h hr
    have q0 : ∀ k, k < p → ∃ y, (R r)[k]? = some y ∧ f_X10_cardAt (nI r) (nI k) (nI 0) σ = some (.inr (qFs a y)) ∧ qFs a y ≤ x := fun k hk => by
      have e := h.at hr (show k < (R r).length by omega)
      exact ⟨_, e, E_cardAt h hr e (by decide), p3 k hk⟩
    have q1 : p < (R r).length → ∃ y, (R r)[p]? = some y ∧ f_X10_cardAt (nI r) (nI p) (nI 0) σ = some (.inr (qFs a y)) ∧ x < qFs a y := fun hp => by
      have e := h.at hr hp
      exact ⟨_, e, E_cardAt h hr e (by decide), p4 hp⟩
    -- the looks at the place
    have look : (bnd (if nI p < 0 then some ((0 : Int32)) else (if nI (R r).length < nI p then some ((0 : Int32)) else (if nI p = 0 then (if nI p = nI (R r).length then some ((1 : Int32)) else (bndQ (f_X10_cardAt (nI r) (nI p) (0 : Int32) σ) fun r_19 => (if r_19 ≤ x then some ((0 : Int32)) else some ((1 : Int32))))) else (bndQ (f_X10_cardAt (nI r) (nI p - (1 : Int32)) (0 : Int32) σ) fun r_22 => (if x < r_22 then some ((0 : Int32)) else (if nI p = nI (R r).length then some ((1 : Int32)) else (bndQ (f_X10_cardAt (nI r) (nI p) (0 : Int32) σ) fun r_26 => (if r_26 ≤ x then some ((0 : Int32)) else some ((1 : Int32)))))))))) (fun v : Int32 => some v)) = some (nI 1) := by
      by_cases e0 : p = 0
      · by_cases e1 : p = (R r).length
        · have e2 : (R r).length = 0 := by omega
          simp (disch := omega) only [↓bnd_s, ↓bnd2_s, ↓bnd3_s, ↓bnd4_s, ↓bnd5_s, ↓bndR_l, ↓bndR_r, ↓bndX_l, ↓bndX_r, ↓bndQ_s, ↓bndQ2_s, bndQ_s, bndQ2_s, bnd_s, bnd2_s, bnd3_s, bnd4_s, bnd5_s, bndR_l, bndR_r, bndX_l, bndX_r, nq_lt, nq_le, nq_inj, nq_add, nq_mul, nq_sub, nq_div, nq_neg1, nq_clamp, nq_ne1, nq_le1, ne1_lt, n1_lt0, n1_lt, n1_ne, nz0, nz1, nz2, nz3, nz4, nz5, nz6, nz8, nz10, nz31, nz32, nz50, nz400, nz800, nz3200, nz20000, nlt_f, nlt_t, nle_f, nle_t, neq_f, neq_t, gi_si_e, gi_si_n, gp_sp_e, gp_sp_n, gr_sr_e, gr_sr_n, gi_sp, gi_sr, gp_si, gp_sr, gr_si, gr_sp, upd_e, upd_n, un_e, un_n, an_sn_e, an_sn_n, an_sm, an_sv, am_sn, am_sm_e, am_sm_n, am_sv, ai_sn, ai_sm, ai_sv_e, ai_sv_n, reduceIte, or_false, false_or, or_true, true_or, or_self, and_true, true_and, and_false, false_and, not_true_eq_false, not_false_eq_true, e0, e2]
        · obtain ⟨y, y1, y2, y3⟩ := q1 (by omega)
          rw [e0] at y2
          have e3 : 0 < (R r).length := by omega
          simp (disch := omega) only [↓bnd_s, ↓bnd2_s, ↓bnd3_s, ↓bnd4_s, ↓bnd5_s, ↓bndR_l, ↓bndR_r, ↓bndX_l, ↓bndX_r, ↓bndQ_s, ↓bndQ2_s, bndQ_s, bndQ2_s, bnd_s, bnd2_s, bnd3_s, bnd4_s, bnd5_s, bndR_l, bndR_r, bndX_l, bndX_r, nq_lt, nq_le, nq_inj, nq_add, nq_mul, nq_sub, nq_div, nq_neg1, nq_clamp, nq_ne1, nq_le1, ne1_lt, n1_lt0, n1_lt, n1_ne, nz0, nz1, nz2, nz3, nz4, nz5, nz6, nz8, nz10, nz31, nz32, nz50, nz400, nz800, nz3200, nz20000, nlt_f, nlt_t, nle_f, nle_t, neq_f, neq_t, gi_si_e, gi_si_n, gp_sp_e, gp_sp_n, gr_sr_e, gr_sr_n, gi_sp, gi_sr, gp_si, gp_sr, gr_si, gr_sp, upd_e, upd_n, un_e, un_n, an_sn_e, an_sn_n, an_sm, an_sv, am_sn, am_sm_e, am_sm_n, am_sv, ai_sn, ai_sm, ai_sv_e, ai_sv_n, reduceIte, or_false, false_or, or_true, true_or, or_self, and_true, true_and, and_false, false_and, not_true_eq_false, not_false_eq_true, e0, y2, Int32.not_le.mpr y3]
      · obtain ⟨z, z1, z2, z3⟩ := q0 (p - 1) (by omega)
        by_cases e1 : p = (R r).length
        · rw [e1] at z2
          have e3 : (R r).length ≠ 0 := by omega
          simp (disch := omega) only [↓bnd_s, ↓bnd2_s, ↓bnd3_s, ↓bnd4_s, ↓bnd5_s, ↓bndR_l, ↓bndR_r, ↓bndX_l, ↓bndX_r, ↓bndQ_s, ↓bndQ2_s, bndQ_s, bndQ2_s, bnd_s, bnd2_s, bnd3_s, bnd4_s, bnd5_s, bndR_l, bndR_r, bndX_l, bndX_r, nq_lt, nq_le, nq_inj, nq_add, nq_mul, nq_sub, nq_div, nq_neg1, nq_clamp, nq_ne1, nq_le1, ne1_lt, n1_lt0, n1_lt, n1_ne, nz0, nz1, nz2, nz3, nz4, nz5, nz6, nz8, nz10, nz31, nz32, nz50, nz400, nz800, nz3200, nz20000, nlt_f, nlt_t, nle_f, nle_t, neq_f, neq_t, gi_si_e, gi_si_n, gp_sp_e, gp_sp_n, gr_sr_e, gr_sr_n, gi_sp, gi_sr, gp_si, gp_sr, gr_si, gr_sp, upd_e, upd_n, un_e, un_n, an_sn_e, an_sn_n, an_sm, an_sv, am_sn, am_sm_e, am_sm_n, am_sv, ai_sn, ai_sm, ai_sv_e, ai_sv_n, reduceIte, or_false, false_or, or_true, true_or, or_self, and_true, true_and, and_false, false_and, not_true_eq_false, not_false_eq_true, e1, z2, Int32.not_lt.mpr z3]
        · obtain ⟨y, y1, y2, y3⟩ := q1 (by omega)
          simp (disch := omega) only [↓bnd_s, ↓bnd2_s, ↓bnd3_s, ↓bnd4_s, ↓bnd5_s, ↓bndR_l, ↓bndR_r, ↓bndX_l, ↓bndX_r, ↓bndQ_s, ↓bndQ2_s, bndQ_s, bndQ2_s, bnd_s, bnd2_s, bnd3_s, bnd4_s, bnd5_s, bndR_l, bndR_r, bndX_l, bndX_r, nq_lt, nq_le, nq_inj, nq_add, nq_mul, nq_sub, nq_div, nq_neg1, nq_clamp, nq_ne1, nq_le1, ne1_lt, n1_lt0, n1_lt, n1_ne, nz0, nz1, nz2, nz3, nz4, nz5, nz6, nz8, nz10, nz31, nz32, nz50, nz400, nz800, nz3200, nz20000, nlt_f, nlt_t, nle_f, nle_t, neq_f, neq_t, gi_si_e, gi_si_n, gp_sp_e, gp_sp_n, gr_sr_e, gr_sr_n, gi_sp, gi_sr, gp_si, gp_sr, gr_si, gr_sp, upd_e, upd_n, un_e, un_n, an_sn_e, an_sn_n, an_sm, an_sv, am_sn, am_sm_e, am_sm_n, am_sv, ai_sn, ai_sm, ai_sv_e, ai_sv_n, reduceIte, or_false, false_or, or_true, true_or, or_self, and_true, true_and, and_false, false_and, not_true_eq_false, not_false_eq_true, z2, Int32.not_lt.mpr z3, y2, Int32.not_le.mpr y3]
    have look2 : ∀ {γ : Type} (f : Int32 → Option γ), bnd (if nI p < 0 then some ((0 : Int32)) else (if nI (R r).length < nI p then some ((0 : Int32)) else (if nI p = 0 then (if nI p = nI (R r).length then some ((1 : Int32)) else (bndQ (f_X10_cardAt (nI r) (nI p) (0 : Int32) σ) fun r_19 => (if r_19 ≤ x then some ((0 : Int32)) else some ((1 : Int32))))) else (bndQ (f_X10_cardAt (nI r) (nI p - (1 : Int32)) (0 : Int32) σ) fun r_22 => (if x < r_22 then some ((0 : Int32)) else (if nI p = nI (R r).length then some ((1 : Int32)) else (bndQ (f_X10_cardAt (nI r) (nI p) (0 : Int32) σ) fun r_26 => (if r_26 ≤ x then some ((0 : Int32)) else some ((1 : Int32)))))))))) f = f (nI 1) := fun f => by
      obtain ⟨v, v1, v2⟩ := bnd_some look
      rw [v1, bnd_s]
      exact congrArg f (Option.some.inj v2)
    by_cases h8 : (R r).length = 800
    · have u1 := E_put_no h hr p1 h8 x (nI 77)
      have u2 : f_L_put (nI r) (nI p) x (nI 77) σ = some (-nI 3, σ) := by
        unfold f_L_put
        rw [u1]
        show (if zS = "java/lang/IllegalStateException" then some (-3, σ) else none) = some (-nI 3, σ)
        rw [ifS]; rfl
      refine ⟨σ, ρ1, a, R, ?_, h, by omega⟩
      unfold f_L_comes
      rw [k1, bnd2_s, show f_L_done 14 (nI r) x 0 σ = _ from d1, bnd2_s, o2, bndQ_s, if_neg n10, c1, bndQ_s, look2, show f_L_put (nI r) (nI p) x 77 σ = _ from u2, bnd2_s, if_neg n10, h8, if_pos (show nI 800 = (800 : Int32) from rfl), if_neg n10, if_pos (show -nI 3 = (-3 : Int32) from rfl), bnd_s, if_neg g11]; rfl
    · obtain ⟨σ1, u1, u2⟩ := E_put h hr p1 (by omega) h2 x (nI 77)
      have u3 : f_L_put (nI r) (nI p) x (nI 77) σ = some (nI (an a 0), σ1) := by
        unfold f_L_put
        rw [u1]; rfl
      obtain ⟨L', hL'⟩ : ∃ z, z = (R r).take p ++ nI (an a 0) :: (R r).drop p := ⟨_, rfl⟩
      rw [← hL'] at u2
      have hl' : L'.length = (R r).length + 1 := by rw [hL']; exact ins_len p1 _
      have eR : qRs R r L' r = L' := qRs_e _ _ rfl
      have hkm : ky (mkA a x (nI 77)) 0 (nI (an a 0)) = x.toInt := by rw [ky0q, qFs_m a x _ hm]
      have hko : ∀ k y, (R r)[k]? = some y → ky (mkA a x (nI 77)) 0 y = (qFs a y).toInt := fun k y hy => by
        rw [ky0q, qFs_o x _ hm (h.vl hr y (List.mem_of_getElem? hy))]
      have hs' : sortedK (ky (mkA a x (nI 77)) 0) (R r) := by
        refine List.pairwise_iff_getElem.mpr fun i j hi hj hij => ?_
        have h9 := List.pairwise_iff_getElem.mp hs i j hi hj hij
        rw [hko i _ (List.getElem?_eq_getElem hi), hko j _ (List.getElem?_eq_getElem hj)]
        exact h9
      have hsL : sortedK (ky (mkA a x (nI 77)) 0) (qRs R r L' r) := by
        rw [eR, hL']
        refine ins_sorted hs' p1 (fun k y hk hy => ?_) (fun y hy => ?_)
        · rw [hko k y hy, hkm]
          have e := h.gt hr hy
          have e2 := p3 k hk
          rw [e.2] at e2
          exact Int32.le_iff_toInt_le.mp e2
        · rw [hko p y hy, hkm]
          have e := h.gt hr hy
          have e2 := p4 e.1
          rw [e.2] at e2
          have := Int32.lt_iff_toInt_lt.mp e2
          omega
      obtain ⟨o', s1, s2, s3, s4, s5⟩ := E_isSorted u2 hr
      rw [if_pos (s4.mpr hsL)] at s2
      have hx : (qRs R r L' r)[p]? = some (nI (an a 0)) := by
        rw [eR, hL', List.getElem?_append_right (by rw [List.length_take]; omega), List.length_take, Nat.min_eq_left p1, Nat.sub_self]; rfl
      have t1 := E_placeOf u2 hr hx (fun k hk e => by
        rw [eR, hL', List.getElem?_append_left (by rw [List.length_take]; omega), List.getElem?_take_of_lt hk] at e
        obtain ⟨i, hi, e2⟩ := h.vl hr _ (List.mem_of_getElem? e)
        have := (nq_inj (by omega) (by omega)).mp e2
        omega)
      have t2 := E_cardAt u2 hr hx (show 1 < 3 by decide)
      rw [qWf1, qSc_m a x _ hm] at t2
      have t3 := E_count u2 hr
      rw [eR, hl'] at t3
      obtain ⟨σ2, v1, v2⟩ := D_sort u2 hr (nI 0) (nI 0)
      rw [srtN_id hsL] at v1
      refine ⟨σ2, ρ1, mkA a x (nI 77), _, ?_, v2, by rw [mkA_0]; omega⟩
      unfold f_L_comes
      rw [k1, bnd2_s, show f_L_done 14 (nI r) x 0 σ = _ from d1, bnd2_s, o2, bndQ_s, if_neg n10, c1, bndQ_s, look2, show f_L_put (nI r) (nI p) x 77 σ = _ from u3, bnd2_s, if_neg n10, if_neg (show ¬ nI (R r).length = (800 : Int32) by rw [nz800, nq_inj (by omega) (by omega)]; exact h8)]
      rw [if_neg (show ¬ nI (an a 0) < 0 by rw [nz0, nq_lt (by omega) (by omega)]; omega), s2, bndQ_s, if_neg n10, t1, bndQ_s, if_pos rfl, nz1, t2, bndQ_s, if_pos (show nI 77 = (77 : Int32) from rfl), t3, bndQ_s, nq_add, if_pos rfl, show f_L_done (nI 1) (nI r) 0 0 σ1 = _ from v1, bnd2_s, if_pos p00, bnd2_s]
      exact if_neg (fun z => z (Or.inr rfl))
  · have oo : ¬ o ≤ 1 := fun z => hs (o4.mp z)
    rw [if_neg oo] at o2
    have p2 := E_placeFor_no h hr x hs
    have d1 : f_L_done 14 (nI r) x (nI 0) σ = some (-nI 3, σ) := (dn_14 _ _ _ _).trans (by
      rw [p2]
      show (if zS = "java/lang/IllegalStateException" then some (-3, σ) else none) = some (-nI 3, σ)
      rw [ifS]; rfl)
    refine ⟨σ, ρ1, a, R, ?_, h, by omega⟩
    unfold f_L_comes
    rw [k1, bnd2_s, show f_L_done 14 (nI r) x 0 σ = _ from d1, bnd2_s, o2, bndQ_s, if_pos p00, if_pos (show -nI 3 = (-3 : Int32) from rfl), o3, bndQ_s, if_neg (show ¬ nI o ≤ (1 : Int32) by rw [nz1, nq_le (by omega) (by omega)]; exact oo), bnd_s]
    exact if_neg g11
end LZ
