/-! the law's sorts, and the order of both -/
theorem dn_0 (b c d : Int32) (σ : St) : f_L_done 0 b c d σ = catE "java/lang/IllegalStateException" (-3) (f_X10_lay b σ) := by
  unfold f_L_done
  rw [if_pos rfl]
theorem dn_1 (b c d : Int32) (σ : St) : f_L_done 1 b c d σ = catE "java/lang/IndexOutOfBoundsException" (-1) (f_X10_sort b σ) := by
  unfold f_L_done
  rw [if_neg (by decide), if_pos rfl]
theorem dn_2 (b c d : Int32) (σ : St) : f_L_done 2 b c d σ = cat2 "java/lang/IndexOutOfBoundsException" "java/lang/IllegalArgumentException" (-1) (-2) (f_X10_sortPart b c d σ) := by
  unfold f_L_done
  rw [if_neg (by decide), if_neg (by decide), if_pos rfl]
theorem dn_3 (b c d : Int32) (σ : St) : f_L_done 3 b c d σ = cat0 (f_X10_sortDown b c d σ) := by
  unfold f_L_done
  rw [if_neg (by decide), if_neg (by decide), if_neg (by decide), if_pos rfl]
theorem dn_4 (b c d : Int32) (σ : St) : f_L_done 4 b c d σ = cat0 (f_X10_sortBySecond b σ) := by
  unfold f_L_done
  rw [if_neg (by decide), if_neg (by decide), if_neg (by decide), if_neg (by decide), if_pos rfl]
theorem dn_5 (b c d : Int32) (σ : St) : f_L_done 5 b c d σ = cat0 (f_X10_sortByBoth b σ) := by
  unfold f_L_done
  rw [if_neg (by decide), if_neg (by decide), if_neg (by decide), if_neg (by decide), if_neg (by decide), if_pos rfl]
theorem dn_6 (b c d : Int32) (σ : St) : f_L_done 6 b c d σ = cat2 "java/lang/IllegalArgumentException" "java/lang/IllegalStateException" (-2) (-3) (f_X10_pour b c σ) := by
  unfold f_L_done
  rw [if_neg (by decide), if_neg (by decide), if_neg (by decide), if_neg (by decide), if_neg (by decide), if_neg (by decide), if_pos rfl]
theorem dn_7 (b c d : Int32) (σ : St) : f_L_done 7 b c d σ = catE "java/lang/IllegalStateException" (-3) (f_X10_deal b c σ) := by
  unfold f_L_done
  rw [if_neg (by decide), if_neg (by decide), if_neg (by decide), if_neg (by decide), if_neg (by decide), if_neg (by decide), if_neg (by decide), if_pos rfl]
theorem dn_8 (b c d : Int32) (σ : St) : f_L_done 8 b c d σ = cat0 (f_X10_turn b σ) := by
  unfold f_L_done
  rw [if_neg (by decide), if_neg (by decide), if_neg (by decide), if_neg (by decide), if_neg (by decide), if_neg (by decide), if_neg (by decide), if_neg (by decide), if_pos rfl]
theorem dn_9 (b c d : Int32) (σ : St) : f_L_done 9 b c d σ = catE "java/lang/IndexOutOfBoundsException" (-1) (f_X10_move b c d σ) := by
  unfold f_L_done
  rw [if_neg (by decide), if_neg (by decide), if_neg (by decide), if_neg (by decide), if_neg (by decide), if_neg (by decide), if_neg (by decide), if_neg (by decide), if_neg (by decide), if_pos rfl]
theorem dn_10 (b c d : Int32) (σ : St) : f_L_done 10 b c d σ = cat0 (f_X10_thin b c σ) := by
  unfold f_L_done
  rw [if_neg (by decide), if_neg (by decide), if_neg (by decide), if_neg (by decide), if_neg (by decide), if_neg (by decide), if_neg (by decide), if_neg (by decide), if_neg (by decide), if_neg (by decide), if_pos rfl]
theorem dn_11 (b c d : Int32) (σ : St) : f_L_done 11 b c d σ = cat0 (f_X10_single b σ) := by
  unfold f_L_done
  rw [if_neg (by decide), if_neg (by decide), if_neg (by decide), if_neg (by decide), if_neg (by decide), if_neg (by decide), if_neg (by decide), if_neg (by decide), if_neg (by decide), if_neg (by decide), if_neg (by decide), if_pos rfl]
theorem dn_12 (b c d : Int32) (σ : St) : f_L_done 12 b c d σ = cat0 (f_X10_keep b σ) := by
  unfold f_L_done
  rw [if_neg (by decide), if_neg (by decide), if_neg (by decide), if_neg (by decide), if_neg (by decide), if_neg (by decide), if_neg (by decide), if_neg (by decide), if_neg (by decide), if_neg (by decide), if_neg (by decide), if_neg (by decide), if_pos rfl]
theorem dn_13 (b c d : Int32) (σ : St) : f_L_done 13 b c d σ = cat0 (f_X10_restore b σ) := by
  unfold f_L_done
  rw [if_neg (by decide), if_neg (by decide), if_neg (by decide), if_neg (by decide), if_neg (by decide), if_neg (by decide), if_neg (by decide), if_neg (by decide), if_neg (by decide), if_neg (by decide), if_neg (by decide), if_neg (by decide), if_neg (by decide), if_pos rfl]
theorem dn_14 (b c d : Int32) (σ : St) : f_L_done 14 b c d σ = catE "java/lang/IllegalStateException" (-3) (rdr (f_X10_placeFor b c σ) σ) := by
  unfold f_L_done
  rw [if_neg (by decide), if_neg (by decide), if_neg (by decide), if_neg (by decide), if_neg (by decide), if_neg (by decide), if_neg (by decide), if_neg (by decide), if_neg (by decide), if_neg (by decide), if_neg (by decide), if_neg (by decide), if_neg (by decide), if_neg (by decide), if_pos rfl]
theorem dn_15 (b c d : Int32) (σ : St) : f_L_done 15 b c d σ = cat0 (f_X10_middle b σ) := by
  unfold f_L_done
  rw [if_neg (by decide), if_neg (by decide), if_neg (by decide), if_neg (by decide), if_neg (by decide), if_neg (by decide), if_neg (by decide), if_neg (by decide), if_neg (by decide), if_neg (by decide), if_neg (by decide), if_neg (by decide), if_neg (by decide), if_neg (by decide), if_neg (by decide), if_pos rfl]
theorem dn_16 (b c d : Int32) (σ : St) : f_L_done 16 b c d σ = catE "java/lang/IndexOutOfBoundsException" (-1) (rdr (f_X10_cardAt b c d σ) σ) := by
  unfold f_L_done
  rw [if_neg (by decide), if_neg (by decide), if_neg (by decide), if_neg (by decide), if_neg (by decide), if_neg (by decide), if_neg (by decide), if_neg (by decide), if_neg (by decide), if_neg (by decide), if_neg (by decide), if_neg (by decide), if_neg (by decide), if_neg (by decide), if_neg (by decide), if_neg (by decide), if_pos rfl]
def sTail (a2 a3 : Int32) (a4 a5 a6 : Nat) (σ : St) (r_2 v_9 v_17 v_29 : Int32) (ρ_18 : St) : Option (Int32 × St × St) :=
  (bnd (f_L_sorts_L118 a4 a5 r_2 FU (0 : Int32) ρ_18) fun ρ_52 => (bnd2 (f_L_due a4 v_9 v_17 v_29 a5 ρ_52) fun r_60 ρ_61 => (bnd2 (f_L_done a3 a2 v_9 v_17 σ) fun r_63 σ_64 => (bnd3 (if r_63 = r_60 then (bnd2 (f_L_sees a2 a6 σ_64 ρ_61) fun r_71 ρ_72 => (if r_71 = r_2 then (bnd (f_L_isLike a5 a6 r_2 ρ_72) fun r_75 => (if r_75 = 0 then some ((0 : Int32), σ_64, ρ_72) else (bnd2 (f_L_done a3 a2 v_9 v_17 σ_64) fun r_78 σ_79 => (if r_78 = 0 then (bnd2 (f_L_sees a2 a6 σ_79 ρ_72) fun r_82 ρ_83 => (if r_82 = r_2 then (bnd (f_L_isLike a5 a6 r_2 ρ_83) fun r_86 => (if r_86 = 0 then some ((0 : Int32), σ_79, ρ_83) else some ((1 : Int32), σ_79, ρ_83))) else some ((0 : Int32), σ_79, ρ_83))) else some ((0 : Int32), σ_79, ρ_72))))) else some ((0 : Int32), σ_64, ρ_72))) else some ((0 : Int32), σ_64, ρ_61)) fun v_66 σ_67 ρ_68 => (bnd2 (if v_66 = 0 then some (v_66, σ_67) else (if a3 = (1 : Int32) then (if r_2 ≤ 0 then some (v_66, σ_67) else (bndQ (f_X10_isSorted a2 σ_67) fun r_95 => (bnd2 (if r_95 = 0 then some ((0 : Int32), σ_67) else (bndQ (f_X10_runs a2 σ_67) fun r_101 => (if r_101 = (1 : Int32) then (bndQ (f_X10_longestRun a2 σ_67) fun r_104 => (if r_104 = r_2 then (bndQ2 (f_X10_wrongPairs a2 σ_67) fun r_107 σ_108 => (if r_107 = 0 then (bnd2 (f_L_done (15 : Int32) a2 (0 : Int32) (0 : Int32) σ_108) fun r_111 σ_112 => if ((r_2 - (1 : Int32)) / (2 : Int32)) < 0 ∨ 3200 ≤ ((r_2 - (1 : Int32)) / (2 : Int32)).toNatClampNeg then none else (if r_111 = (gr ρ_68 (4 + 3 * a5 + 0) (((r_2 - (1 : Int32)) / (2 : Int32)).toNatClampNeg)) then some ((1 : Int32), σ_112) else some ((0 : Int32), σ_112))) else some ((0 : Int32), σ_108))) else some ((0 : Int32), σ_67))) else some ((0 : Int32), σ_67)))) fun v_97 σ_98 => some (v_97, σ_98)))) else some (v_66, σ_67))) fun v_89 σ_90 => (if ¬ (v_89 = 0 ∨ v_89 = 1) then none else some (v_89, σ_90, ρ_68)))))))
theorem sorts_t (a2 a3 : Int32) (a4 a5 a6 : Nat) (σ ρ : St) : f_L_sorts a2 a3 a4 a5 a6 σ ρ =
  (bnd2 (f_L_sees a2 a4 σ ρ) fun r_2 ρ_3 => (bnd (if a3 = (2 : Int32) then some ((1 : Int32)) else (if a3 = (3 : Int32) then some ((1 : Int32)) else some ((0 : Int32)))) fun v_5 => (bnd2 (if v_5 = 0 then some ((0 : Int32), ρ_3) else (bnd2 (f_L_next ρ_3) fun r_13 ρ_14 => if r_2 + (1 : Int32) = 0 then none else some (r_13 - r_13 / (r_2 + (1 : Int32)) * (r_2 + (1 : Int32)), ρ_14))) fun v_9 ρ_10 => (bnd2 (if v_5 = 0 then some (r_2, ρ_10) else (bnd2 (f_L_next ρ_10) fun r_21 ρ_22 => (bnd (if a3 = (3 : Int32) then some ((32 : Int32)) else some (r_2 + (1 : Int32))) fun v_24 => if v_24 = 0 then none else some ((if (v_9 + (r_21 - r_21 / v_24 * v_24)) < r_2 then (v_9 + (r_21 - r_21 / v_24 * v_24)) else r_2), ρ_22)))) fun v_17 ρ_18 => (bnd (if a3 = (3 : Int32) then some ((1 : Int32)) else (if a3 = (4 : Int32) then some ((2 : Int32)) else (if a3 = (5 : Int32) then some ((3 : Int32)) else some ((0 : Int32))))) fun v_29 => sTail a2 a3 a4 a5 a6 σ r_2 v_9 v_17 v_29 ρ_18))))) := rfl
theorem rem_nI {k n : Nat} (hn : 0 < n) (hk : k < 2147483648) (hn2 : n < 2147483648) : nI k - nI k / nI n * nI n = nI (k % n) := by
  have h1 := Nat.div_mul_le_self k n
  have h2 := Nat.mod_add_div k n
  rw [Nat.mul_comm] at h2
  rw [nq_div hk hn2, nq_mul, nq_sub h1, show k - k / n * n = k % n by omega]
theorem md_eq (k n : Nat) : k - k / n * n = k % n := by
  have h2 := Nat.mod_add_div k n
  rw [Nat.mul_comm] at h2
  omega
theorem u32_nI (y : UInt32) : y.toInt32 = nI y.toNat := by
  apply Int32.toBitVec_inj.mp
  apply BitVec.eq_of_toNat_eq
  show y.toBitVec.toNat = (BitVec.ofNat 32 y.toNat).toNat
  rw [BitVec.toNat_ofNat]
  exact (Nat.mod_eq_of_lt y.toBitVec.isLt).symm
/-- the draws' cell is all that changes -/
def rF (ρ ρ' : St) : Prop := ∀ i, i ≠ 0 → gr ρ' i = gr ρ i
theorem L_next (ρ : St) : ∃ (k : Nat) (ρ' : St), k < 8388608 ∧ f_L_next ρ = some (nI k, ρ') ∧ rF ρ ρ' := by
  unfold f_L_next
  rw [bnd_s, bnd_s]
  obtain ⟨ρ', hρ⟩ : ∃ z, z = sr (sr ρ 0 (upd (gr ρ 0) 0 (((gr ρ 0 0) * (1103515245 : Int32)) + (12345 : Int32)))) 0 (upd (gr (sr ρ 0 (upd (gr ρ 0) 0 (((gr ρ 0 0) * (1103515245 : Int32)) + (12345 : Int32)))) 0) 0 ((gr (sr ρ 0 (upd (gr ρ 0) 0 (((gr ρ 0 0) * (1103515245 : Int32)) + (12345 : Int32)))) 0 0) ^^^ (((gr (sr ρ 0 (upd (gr ρ 0) 0 (((gr ρ 0 0) * (1103515245 : Int32)) + (12345 : Int32)))) 0 0).toUInt32 >>> ((15 : Int32).toUInt32 &&& Int32.toUInt32 31)).toInt32))) := ⟨_, rfl⟩
  rw [← hρ]
  have h9 : ((9 : Int32).toUInt32 &&& Int32.toUInt32 31).toNat % 32 = 9 := by decide +kernel
  refine ⟨((gr ρ' 0 0).toUInt32 >>> ((9 : Int32).toUInt32 &&& Int32.toUInt32 31)).toNat, ρ', ?_, by rw [u32_nI], fun i hi => by rw [hρ, gr_sr_n _ _ hi, gr_sr_n _ _ hi]⟩
  rw [UInt32.toNat_shiftRight, h9, Nat.shiftRight_eq_div_pow]
  have := (gr ρ' 0 0).toUInt32.toBitVec.isLt
  have h2 : (gr ρ' 0 0).toUInt32.toNat < 4294967296 := this
  omega
theorem GDn.rf {a : AS} {g : Nat} {L : List Int32} {n : Nat} {ρ ρ' : St} (h : GDn a g L n ρ) (e : rF ρ ρ') : GDn a g L n ρ' := h.fr fun w hw => e _ (by omega)
section LX
variable {a : AS} {R : QR} {σ ρ : St}
theorem D_keep (h : qIN a R σ) {r : Nat} (hr : r < 4) (c d : Int32) : ∃ σ', f_L_done 12 (nI r) c d σ = some (nI (R r).length, σ') ∧ qIN a (qRs (qRs R (4 + r) (R r)) 8 (nI r :: R 8)) σ' := by
  obtain ⟨σ', h1, h2⟩ := E_keep h hr
  exact ⟨σ', by rw [dn_12, h1]; rfl, h2⟩
theorem D_restore (h : qIN a R σ) {r : Nat} (hr : r < 4) (hf : nI r ∈ R 8) (hl : (R (4 + r)).length = (R r).length) (c d : Int32) : ∃ σ', f_L_done 13 (nI r) c d σ = some (nI (dif (gL (R r)) (gL (R (4 + r))) (R r).length), σ') ∧ qIN a (qRs R r (R (4 + r))) σ' := by
  obtain ⟨σ', h1, h2⟩ := E_restore h hr hf hl
  exact ⟨σ', by rw [dn_13, h1]; rfl, h2⟩
theorem D_sort (h : qIN a R σ) {r : Nat} (hr : r < 4) (c d : Int32) : ∃ σ', f_L_done 1 (nI r) c d σ = some (nI (srtN a 0 (R r)), σ') ∧ qIN a (qRs R r (isrt (ky a 0) (R r))) σ' := by
  obtain ⟨σ', h1, h2⟩ := E_sort h hr
  exact ⟨σ', by rw [dn_1, h1]; rfl, h2⟩
theorem D_second (h : qIN a R σ) {r : Nat} (hr : r < 4) (c d : Int32) : ∃ σ', f_L_done 4 (nI r) c d σ = some (nI (srtN a 2 (R r)), σ') ∧ qIN a (qRs R r (isrt (ky a 2) (R r))) σ' := by
  obtain ⟨σ', h1, h2⟩ := E_sortBySecond h hr
  exact ⟨σ', by rw [dn_4, h1]; rfl, h2⟩
theorem D_both (h : qIN a R σ) {r : Nat} (hr : r < 4) (c d : Int32) : ∃ σ', f_L_done 5 (nI r) c d σ = some (nI (srtN a 3 (R r)), σ') ∧ qIN a (qRs R r (isrt (ky a 3) (R r))) σ' := by
  obtain ⟨σ', h1, h2⟩ := E_sortByBoth h hr
  exact ⟨σ', by rw [dn_5, h1]; rfl, h2⟩
/-- the number of the order that the law sorts by -/
def wNo (what : Nat) : Nat := if what = 3 then 1 else if what = 4 then 2 else if what = 5 then 3 else 0
/-- a sorting call on a part: rows are parts of their own -/
theorem D_sorts (h : qIN a R σ) {r what lo hi : Nat} (hr : r < 4) (hw : 1 ≤ what) (hw5 : what ≤ 5) (hlo : lo ≤ hi) (hhi : hi ≤ (R r).length) (hrow : what = 1 ∨ what = 4 ∨ what = 5 → lo = 0 ∧ hi = (R r).length) (h31 : what = 3 → hi - lo ≤ 31) :
    ∃ σ', f_L_done (nI what) (nI r) (nI lo) (nI hi) σ = some (nI (dif (fun k => gL (R r) (lo + k)) (gL (isrt (ky a (wNo what)) (((R r).drop lo).take (hi - lo)))) (hi - lo)), σ') ∧ qIN a (qRs R r (prt (ky a (wNo what)) lo hi (R r))) σ' := by
  have row : ∀ t, lo = 0 ∧ hi = (R r).length → srtN a t (R r) = dif (fun k => gL (R r) (lo + k)) (gL (isrt (ky a t) (((R r).drop lo).take (hi - lo)))) (hi - lo) ∧ isrt (ky a t) (R r) = prt (ky a t) lo hi (R r) := fun t hz => by
    obtain ⟨rfl, rfl⟩ := hz
    rw [prt_row, Nat.sub_zero, List.drop_zero, List.take_of_length_le (Nat.le_refl _)]
    refine ⟨?_, rfl⟩
    unfold srtN
    exact dif_congr (fun k _ => by show gL (R r) k = gL (R r) (0 + k); rw [Nat.zero_add]) (fun _ _ => rfl)
  rcases (show what = 1 ∨ what = 2 ∨ what = 3 ∨ what = 4 ∨ what = 5 by omega) with rfl | rfl | rfl | rfl | rfl
  · obtain ⟨σ', h1, h2⟩ := D_sort h hr (nI lo) (nI hi)
    obtain ⟨e1, e2⟩ := row 0 (hrow (Or.inl rfl))
    rw [e1] at h1
    rw [e2] at h2
    exact ⟨σ', h1, h2⟩
  · obtain ⟨σ', h1, h2⟩ := E_sortPart h hr hlo hhi
    exact ⟨σ', (dn_2 _ _ _ _).trans (by rw [h1]; rfl), h2⟩
  · obtain ⟨σ', h1, h2⟩ := E_sortDown h hr hlo hhi (h31 rfl)
    exact ⟨σ', (dn_3 _ _ _ _).trans (by rw [h1]; rfl), h2⟩
  · obtain ⟨σ', h1, h2⟩ := D_second h hr (nI lo) (nI hi)
    obtain ⟨e1, e2⟩ := row 2 (hrow (Or.inr (Or.inl rfl)))
    rw [e1] at h1
    rw [e2] at h2
    exact ⟨σ', h1, h2⟩
  · obtain ⟨σ', h1, h2⟩ := D_both h hr (nI lo) (nI hi)
    obtain ⟨e1, e2⟩ := row 3 (hrow (Or.inr (Or.inr rfl)))
    rw [e1] at h1
    rw [e2] at h2
    exact ⟨σ', h1, h2⟩
theorem cps_L {g g' n : Nat} {L : List Int32} (hne : g ≠ g') (hL : L.length ≤ 3200) (hn : n = L.length) : ∀ (d : Nat) {fu i : Nat} {ρ : St}, GD a g L ρ → n - i = d → d < fu → i ≤ n → GDn a g' L i ρ → ∃ ρ', f_L_sorts_L118 g g' (nI n) fu (nI i) ρ = some ρ' ∧ GD a g' L ρ' ∧ gF g' ρ ρ' := by
  intro d
  induction d with
  | zero =>
    intro fu i ρ h hd hf hi hG
    obtain ⟨fu, rfl⟩ : ∃ f, fu = f + 1 := ⟨fu - 1, by omega⟩
    have e : i = L.length := by omega
    subst e
    exact ⟨ρ, by unfold f_L_sorts_L118; simp (disch := omega) only [↓bnd_s, ↓bnd2_s, ↓bnd3_s, ↓bnd4_s, ↓bnd5_s, ↓bndR_l, ↓bndR_r, ↓bndX_l, ↓bndX_r, ↓bndQ_s, ↓bndQ2_s, bndQ_s, bndQ2_s, bnd_s, bnd2_s, bnd3_s, bnd4_s, bnd5_s, bndR_l, bndR_r, bndX_l, bndX_r, nq_lt, nq_le, nq_inj, nq_add, nq_mul, nq_sub, nq_div, nq_neg1, nq_clamp, nq_ne1, nq_le1, ne1_lt, n1_lt0, n1_lt, n1_ne, nz0, nz1, nz2, nz3, nz4, nz5, nz6, nz8, nz10, nz31, nz32, nz50, nz400, nz800, nz3200, nz20000, nlt_f, nlt_t, nle_f, nle_t, neq_f, neq_t, gi_si_e, gi_si_n, gp_sp_e, gp_sp_n, gr_sr_e, gr_sr_n, gi_sp, gi_sr, gp_si, gp_sr, gr_si, gr_sp, upd_e, upd_n, un_e, un_n, an_sn_e, an_sn_n, an_sm, an_sv, am_sn, am_sm_e, am_sm_n, am_sv, ai_sn, ai_sm, ai_sv_e, ai_sv_n, reduceIte, or_false, false_or, or_true, true_or, or_self, and_true, true_and, and_false, false_and, not_true_eq_false, not_false_eq_true, hn], hG, gF.refl _ _⟩
  | succ d ih =>
    intro fu i ρ h hd hf hi hG
    obtain ⟨fu, rfl⟩ : ∃ f, fu = f + 1 := ⟨fu - 1, by omega⟩
    have hx := gL_at (L := L) (k := i) (by omega)
    have cp := L_copies' (g := g) (g' := g') (i := i) (k := i) hne (by omega) (by omega) (fun w hw => h i _ w (by omega) hw hx)
    obtain ⟨ρ', k1, k2, k3⟩ := ih (fu := fu) (i := i + 1) (h.gf set3_F hne) (by omega) (by omega) (by omega) (hG.put hx)
    refine ⟨ρ', ?_, k2, set3_F.trans k3⟩
    unfold f_L_sorts_L118; simp (disch := omega) only [↓bnd_s, ↓bnd2_s, ↓bnd3_s, ↓bnd4_s, ↓bnd5_s, ↓bndR_l, ↓bndR_r, ↓bndX_l, ↓bndX_r, ↓bndQ_s, ↓bndQ2_s, bndQ_s, bndQ2_s, bnd_s, bnd2_s, bnd3_s, bnd4_s, bnd5_s, bndR_l, bndR_r, bndX_l, bndX_r, nq_lt, nq_le, nq_inj, nq_add, nq_mul, nq_sub, nq_div, nq_neg1, nq_clamp, nq_ne1, nq_le1, ne1_lt, n1_lt0, n1_lt, n1_ne, nz0, nz1, nz2, nz3, nz4, nz5, nz6, nz8, nz10, nz31, nz32, nz50, nz400, nz800, nz3200, nz20000, nlt_f, nlt_t, nle_f, nle_t, neq_f, neq_t, gi_si_e, gi_si_n, gp_sp_e, gp_sp_n, gr_sr_e, gr_sr_n, gi_sp, gi_sr, gp_si, gp_sr, gr_si, gr_sp, upd_e, upd_n, un_e, un_n, an_sn_e, an_sn_n, an_sm, an_sv, am_sn, am_sm_e, am_sm_n, am_sv, ai_sn, ai_sm, ai_sv_e, ai_sv_n, reduceIte, or_false, false_or, or_true, true_or, or_self, and_true, true_and, and_false, false_and, not_true_eq_false, not_false_eq_true, cp]; exact k1
/-- what is due is what the part becomes -/
theorem due_prt {g' lo hi t : Nat} {L : List Int32} {ρ ρ' : St} (hlo : lo ≤ hi) (hhi : hi ≤ L.length) (hG : GD a g' L ρ) (h3 : ∀ w q, w < 3 → (q < lo ∨ hi ≤ q) → gr ρ' (4 + 3 * g' + w) q = gr ρ (4 + 3 * g' + w) q) (h4 : ∀ (j : Nat) (x : Int32) (w : Nat), w < 3 → (isrt (ky a t) ((L.drop lo).take (hi - lo)))[j]? = some x → gr ρ' (4 + 3 * g' + w) (lo + j) = qWf a w x) : GD a g' (prt (ky a t) lo hi L) ρ' := by
  have hS : (isrt (ky a t) ((L.drop lo).take (hi - lo))).length = hi - lo := by rw [isrt_len, List.length_take, List.length_drop]; omega
  intro q x w hq hw hx
  rw [prt_len _ hlo hhi] at hq
  unfold prt at hx
  by_cases h1 : q < lo
  · rw [List.getElem?_append_left (by rw [List.length_take]; omega), List.getElem?_take_of_lt h1] at hx
    rw [h3 w q hw (Or.inl h1)]; exact hG q x w hq hw hx
  · rw [List.getElem?_append_right (by rw [List.length_take]; omega), List.length_take, Nat.min_eq_left (by omega)] at hx
    by_cases h2 : q < hi
    · rw [List.getElem?_append_left (by omega)] at hx
      have := h4 (q - lo) x w hw hx
      rw [show lo + (q - lo) = q by omega] at this
      exact this
    · rw [List.getElem?_append_right (by omega), hS, List.getElem?_drop, show hi + (q - lo - (hi - lo)) = q by omega] at hx
      rw [h3 w q hw (Or.inr (by omega))]; exact hG q x w hq hw hx
theorem L_sTail (h : qIN a R σ) {r what lo hi g g' g2 : Nat} (hg : g < 3) (hg' : g' < 3) (hg2 : g2 < 3) (hn1 : g ≠ g') (hn2 : g ≠ g2) (hn3 : g' ≠ g2) (hr : r < 4) (hw : 1 ≤ what) (hw5 : what ≤ 5) (hlo : lo ≤ hi) (hhi : hi ≤ (R r).length) (hrow : what = 1 ∨ what = 4 ∨ what = 5 → lo = 0 ∧ hi = (R r).length) (h31 : what = 3 → hi - lo ≤ 31) (hG : GD a g (R r) ρ) :
    ∃ (σ' ρ' : St) (R' : QR), sTail (nI r) (nI what) g g' g2 σ (nI (R r).length) (nI lo) (nI hi) (nI (wNo what)) ρ = some (nI 1, σ', ρ') ∧ qIN a R' σ' := by
  have hn := h.len hr
  have ht : wNo what < 4 := by unfold wNo; split; omega; split; omega; split <;> omega
  obtain ⟨ρ1, a1, a2, a3⟩ := cps_L (a := a) (g := g) (g' := g') (L := R r) (n := (R r).length) hn1 (by omega) rfl _ (fu := FU) (i := 0) hG rfl (by unfold FU; omega) (Nat.zero_le _) (fun k x w hk => absurd hk (Nat.not_lt_zero _))
  obtain ⟨ρ2, b1, b2, b3, b4⟩ := L_due (a := a) (ρ := ρ1) (g := g) (g' := g') (lo := lo) (hi := hi) (L := R r) (t := wNo what) hg hg' hn1 (by omega) ht hlo hhi (hG.gf a3 hn1)
  have hP := due_prt hlo hhi a2 b3 b4
  have hPl := prt_len (ky a (wNo what)) hlo hhi
  obtain ⟨σ1, c1, c2⟩ := D_sorts h hr hw hw5 hlo hhi hrow h31
  obtain ⟨L2, hL2⟩ : ∃ z, z = prt (ky a (wNo what)) lo hi (R r) := ⟨_, rfl⟩
  have eR1 : qRs R r (prt (ky a (wNo what)) lo hi (R r)) r = L2 := by rw [qRs_e _ _ rfl, hL2]
  rw [← hL2] at hP hPl
  obtain ⟨ρ3, d1, d2, d3, d4⟩ := L_sees c2 hr g2 ρ2
  rw [eR1] at d1 d2 d4
  have hP3 : GD a g' L2 ρ3 := hP.gf d3 hn3
  have e1 := L_isLike (by omega) hP3 d2
  rw [hPl] at d1 e1
  have hrow2 : what = 1 ∨ what = 4 ∨ what = 5 → lo = 0 ∧ hi = (qRs R r (prt (ky a (wNo what)) lo hi (R r)) r).length := fun z => by rw [eR1, hPl]; exact hrow z
  obtain ⟨σ2, f1, f2⟩ := D_sorts c2 hr hw hw5 hlo (by rw [eR1, hPl]; exact hhi) hrow2 h31
  rw [eR1, hL2, dif_prt _ hlo hhi] at f1
  rw [eR1, hL2, prt_prt _ hlo hhi, qRs_qRs, ← hL2] at f2
  have eR2 : qRs R r L2 r = L2 := qRs_e _ _ rfl
  obtain ⟨ρ4, g1, g2', g3, g4⟩ := L_sees f2 hr g2 ρ3
  rw [eR2] at g1 g2' g4
  have i1 := L_isLike (by omega) (hP3.gf g3 hn3) g2'
  rw [hPl] at g1 i1
  have fin : what ≠ 1 ∨ (R r).length = 0 → ∃ (σ' ρ' : St) (R' : QR), sTail (nI r) (nI what) g g' g2 σ (nI (R r).length) (nI lo) (nI hi) (nI (wNo what)) ρ = some (nI 1, σ', ρ') ∧ qIN a R' σ' := fun hz => by
    refine ⟨σ2, ρ4, _, ?_, f2⟩
    unfold sTail
    rw [nz0, a1, bnd_s, b1, bnd2_s, c1, bnd2_s]
    rcases hz with hz | hz
    · simp (disch := omega) only [↓bnd_s, ↓bnd2_s, ↓bnd3_s, ↓bnd4_s, ↓bnd5_s, ↓bndR_l, ↓bndR_r, ↓bndX_l, ↓bndX_r, ↓bndQ_s, ↓bndQ2_s, bndQ_s, bndQ2_s, bnd_s, bnd2_s, bnd3_s, bnd4_s, bnd5_s, bndR_l, bndR_r, bndX_l, bndX_r, nq_lt, nq_le, nq_inj, nq_add, nq_mul, nq_sub, nq_div, nq_neg1, nq_clamp, nq_ne1, nq_le1, ne1_lt, n1_lt0, n1_lt, n1_ne, nz0, nz1, nz2, nz3, nz4, nz5, nz6, nz8, nz10, nz31, nz32, nz50, nz400, nz800, nz3200, nz20000, nlt_f, nlt_t, nle_f, nle_t, neq_f, neq_t, gi_si_e, gi_si_n, gp_sp_e, gp_sp_n, gr_sr_e, gr_sr_n, gi_sp, gi_sr, gp_si, gp_sr, gr_si, gr_sp, upd_e, upd_n, un_e, un_n, an_sn_e, an_sn_n, an_sm, an_sv, am_sn, am_sm_e, am_sm_n, am_sv, ai_sn, ai_sm, ai_sv_e, ai_sv_n, reduceIte, or_false, false_or, or_true, true_or, or_self, and_true, true_and, and_false, false_and, not_true_eq_false, not_false_eq_true, d1, e1, f1, g1, i1, hz]
    · by_cases h1 : what = 1
      · subst h1
        have hle : (nI (R r).length ≤ nI 0) = True := eq_true (by rw [hz]; decide)
        simp (disch := omega) only [↓bnd_s, ↓bnd2_s, ↓bnd3_s, ↓bnd4_s, ↓bnd5_s, ↓bndR_l, ↓bndR_r, ↓bndX_l, ↓bndX_r, ↓bndQ_s, ↓bndQ2_s, bndQ_s, bndQ2_s, bnd_s, bnd2_s, bnd3_s, bnd4_s, bnd5_s, bndR_l, bndR_r, bndX_l, bndX_r, nq_lt, nq_le, nq_inj, nq_add, nq_mul, nq_sub, nq_div, nq_neg1, nq_clamp, nq_ne1, nq_le1, ne1_lt, n1_lt0, n1_lt, n1_ne, nz0, nz1, nz2, nz3, nz4, nz5, nz6, nz8, nz10, nz31, nz32, nz50, nz400, nz800, nz3200, nz20000, nlt_f, nlt_t, nle_f, nle_t, neq_f, neq_t, gi_si_e, gi_si_n, gp_sp_e, gp_sp_n, gr_sr_e, gr_sr_n, gi_sp, gi_sr, gp_si, gp_sr, gr_si, gr_sp, upd_e, upd_n, un_e, un_n, an_sn_e, an_sn_n, an_sm, an_sv, am_sn, am_sm_e, am_sm_n, am_sv, ai_sn, ai_sm, ai_sv_e, ai_sv_n, reduceIte, or_false, false_or, or_true, true_or, or_self, and_true, true_and, and_false, false_and, not_true_eq_false, not_false_eq_true, d1, e1, f1, g1, i1, hle]
      · simp (disch := omega) only [↓bnd_s, ↓bnd2_s, ↓bnd3_s, ↓bnd4_s, ↓bnd5_s, ↓bndR_l, ↓bndR_r, ↓bndX_l, ↓bndX_r, ↓bndQ_s, ↓bndQ2_s, bndQ_s, bndQ2_s, bnd_s, bnd2_s, bnd3_s, bnd4_s, bnd5_s, bndR_l, bndR_r, bndX_l, bndX_r, nq_lt, nq_le, nq_inj, nq_add, nq_mul, nq_sub, nq_div, nq_neg1, nq_clamp, nq_ne1, nq_le1, ne1_lt, n1_lt0, n1_lt, n1_ne, nz0, nz1, nz2, nz3, nz4, nz5, nz6, nz8, nz10, nz31, nz32, nz50, nz400, nz800, nz3200, nz20000, nlt_f, nlt_t, nle_f, nle_t, neq_f, neq_t, gi_si_e, gi_si_n, gp_sp_e, gp_sp_n, gr_sr_e, gr_sr_n, gi_sp, gi_sr, gp_si, gp_sr, gr_si, gr_sp, upd_e, upd_n, un_e, un_n, an_sn_e, an_sn_n, an_sm, an_sv, am_sn, am_sm_e, am_sm_n, am_sv, ai_sn, ai_sm, ai_sv_e, ai_sv_n, reduceIte, or_false, false_or, or_true, true_or, or_self, and_true, true_and, and_false, false_and, not_true_eq_false, not_false_eq_true, d1, e1, f1, g1, i1, h1]
  by_cases hz : what ≠ 1 ∨ (R r).length = 0
  · exact fin hz
  · have hw1 : what = 1 := by omega
    have hl0 : 0 < (R r).length := by omega
    subst hw1
    obtain ⟨rfl, rfl⟩ := hrow (Or.inl rfl)
    have hso : sortedK (ky a 0) L2 := by
      rw [hL2, prt_row]
      exact (isrt_srt _ _ _ rfl).1
    have hso2 : sortedK (ky a 0) (qRs R r L2 r) := by rw [eR2]; exact hso
    have hl2 : (qRs R r L2 r).length = (R r).length := by rw [eR2]; exact hPl
    obtain ⟨o, o1, o2, o3, o4, o5⟩ := E_isSorted f2 hr
    have oo : o = 1 := by
      have q1 := o4.mpr hso2
      have q2 : o ≠ 0 := fun z => by have := o5 z; omega
      omega
    subst oo
    have lg := E_longest f2 hr hso2 (by omega)
    rw [hl2] at lg
    obtain ⟨σ3, w1, w2⟩ := E_wrongPairs f2 hr hso2
    have hm : (((R r).length - 1) / 2) < L2.length := by omega
    have hx := gL_at (L := L2) hm
    have hx2 : (qRs R r L2 r)[((qRs R r L2 r).length - 1) / 2]? = some (gL L2 (((R r).length - 1) / 2)) := by rw [hl2, eR2]; exact hx
    obtain ⟨σ4, m1, m2⟩ := E_middle w2 hr hso2 hx2
    have m3 : f_L_done 15 (nI r) (nI 0) (nI 0) σ3 = some (qFs a (gL L2 (((R r).length - 1) / 2)), σ4) := by rw [dn_15, m1]; rfl
    have v1 : gr ρ4 (4 + 3 * g' + 0) (((R r).length - 1) / 2) = qFs a (gL L2 (((R r).length - 1) / 2)) := (hP3.gf g3 hn3) _ _ 0 hm (by decide) hx
    have e15 : (15 : Int32) = nI 15 := rfl
    rw [e15] at m3
    refine ⟨σ4, ρ4, _, ?_, m2⟩
    unfold sTail
    rw [nz0, a1, bnd_s, b1, bnd2_s, c1, bnd2_s]
    rw [if_pos (Nat.le_refl 1)] at o2
    simp (disch := omega) only [↓bnd_s, ↓bnd2_s, ↓bnd3_s, ↓bnd4_s, ↓bnd5_s, ↓bndR_l, ↓bndR_r, ↓bndX_l, ↓bndX_r, ↓bndQ_s, ↓bndQ2_s, bndQ_s, bndQ2_s, bnd_s, bnd2_s, bnd3_s, bnd4_s, bnd5_s, bndR_l, bndR_r, bndX_l, bndX_r, nq_lt, nq_le, nq_inj, nq_add, nq_mul, nq_sub, nq_div, nq_neg1, nq_clamp, nq_ne1, nq_le1, ne1_lt, n1_lt0, n1_lt, n1_ne, nz0, nz1, nz2, nz3, nz4, nz5, nz6, nz8, nz10, nz31, nz32, nz50, nz400, nz800, nz3200, nz20000, nlt_f, nlt_t, nle_f, nle_t, neq_f, neq_t, gi_si_e, gi_si_n, gp_sp_e, gp_sp_n, gr_sr_e, gr_sr_n, gi_sp, gi_sr, gp_si, gp_sr, gr_si, gr_sp, upd_e, upd_n, un_e, un_n, an_sn_e, an_sn_n, an_sm, an_sv, am_sn, am_sm_e, am_sm_n, am_sv, ai_sn, ai_sm, ai_sv_e, ai_sv_n, reduceIte, or_false, false_or, or_true, true_or, or_self, and_true, true_and, and_false, false_and, not_true_eq_false, not_false_eq_true, d1, e1, f1, g1, i1, o2, o3, lg, w1, e15, m3, v1]
theorem min_nI {x y : Nat} : (if y < x then nI y else nI x) = nI (min x y) := by
  by_cases e : y < x
  · rw [if_pos e, Nat.min_eq_right (by omega)]
  · rw [if_neg e, Nat.min_eq_left (by omega)]
theorem L_sorts2 (h : qIN a R σ) {r g g' g2 : Nat} (hg : g < 3) (hg' : g' < 3) (hg2 : g2 < 3) (hn1 : g ≠ g') (hn2 : g ≠ g2) (hn3 : g' ≠ g2) (hr : r < 4) (ρ : St) :
    ∃ (σ' ρ' : St) (R' : QR), f_L_sorts (nI r) (nI 2) g g' g2 σ ρ = some (nI 1, σ', ρ') ∧ qIN a R' σ' := by
  have hn := h.len hr
  obtain ⟨ρ1, a1, a2, a3, a4⟩ := L_sees h hr g ρ
  obtain ⟨k1, ρ2, k2, k3, k4⟩ := L_next ρ1
  obtain ⟨k5, ρ3, k6, k7, k8⟩ := L_next ρ2
  have hG := (a2.rf k4).rf k8
  have hlo : k1 % ((R r).length + 1) ≤ (R r).length := by have := Nat.mod_lt k1 (show (R r).length + 1 > 0 by omega); omega
  have hb := Nat.mod_lt k5 (show (R r).length + 1 > 0 by omega)
  have mn := min_nI (x := (R r).length) (y := k1 % ((R r).length + 1) + k5 % ((R r).length + 1))
  have m1 := Nat.div_mul_le_self k1 ((R r).length + 1)
  have m5 := Nat.div_mul_le_self k5 ((R r).length + 1)
  have e1 := md_eq k1 ((R r).length + 1)
  have e5 := md_eq k5 ((R r).length + 1)
  obtain ⟨b1, hb1⟩ : ∃ z, z = k1 % ((R r).length + 1) := ⟨_, rfl⟩
  obtain ⟨b5, hb5⟩ : ∃ z, z = k5 % ((R r).length + 1) := ⟨_, rfl⟩
  rw [← hb1] at hlo mn e1
  rw [← hb5] at hb mn e5
  obtain ⟨σ', ρ', R', t1, t2⟩ := L_sTail h hg hg' hg2 hn1 hn2 hn3 hr (what := 2) (by omega) (by omega) (lo := b1) (hi := min (R r).length (b1 + b5)) (by omega) (by omega) (fun z => by omega) (fun z => by omega) hG
  rw [show wNo 2 = 0 from rfl] at t1
  refine ⟨σ', ρ', R', ?_, t2⟩
  obtain ⟨T, hT⟩ : ∃ T, T = sTail := ⟨_, rfl⟩
  rw [sorts_t, ← hT]
  rw [← hT] at t1
  simp (disch := omega) only [↓bnd_s, ↓bnd2_s, ↓bnd3_s, ↓bnd4_s, ↓bnd5_s, ↓bndR_l, ↓bndR_r, ↓bndX_l, ↓bndX_r, ↓bndQ_s, ↓bndQ2_s, bndQ_s, bndQ2_s, bnd_s, bnd2_s, bnd3_s, bnd4_s, bnd5_s, bndR_l, bndR_r, bndX_l, bndX_r, nq_lt, nq_le, nq_inj, nq_add, nq_mul, nq_sub, nq_div, nq_neg1, nq_clamp, nq_ne1, nq_le1, ne1_lt, n1_lt0, n1_lt, n1_ne, nz0, nz1, nz2, nz3, nz4, nz5, nz6, nz8, nz10, nz31, nz32, nz50, nz400, nz800, nz3200, nz20000, nlt_f, nlt_t, nle_f, nle_t, neq_f, neq_t, gi_si_e, gi_si_n, gp_sp_e, gp_sp_n, gr_sr_e, gr_sr_n, gi_sp, gi_sr, gp_si, gp_sr, gr_si, gr_sp, upd_e, upd_n, un_e, un_n, an_sn_e, an_sn_n, an_sm, an_sv, am_sn, am_sm_e, am_sm_n, am_sv, ai_sn, ai_sm, ai_sv_e, ai_sv_n, reduceIte, or_false, false_or, or_true, true_or, or_self, and_true, true_and, and_false, false_and, not_true_eq_false, not_false_eq_true, a1, k3, k7]
  rw [e1, e5, mn]
  exact t1
theorem L_sorts3 (h : qIN a R σ) {r g g' g2 : Nat} (hg : g < 3) (hg' : g' < 3) (hg2 : g2 < 3) (hn1 : g ≠ g') (hn2 : g ≠ g2) (hn3 : g' ≠ g2) (hr : r < 4) (ρ : St) :
    ∃ (σ' ρ' : St) (R' : QR), f_L_sorts (nI r) (nI 3) g g' g2 σ ρ = some (nI 1, σ', ρ') ∧ qIN a R' σ' := by
  have hn := h.len hr
  obtain ⟨ρ1, a1, a2, a3, a4⟩ := L_sees h hr g ρ
  obtain ⟨k1, ρ2, k2, k3, k4⟩ := L_next ρ1
  obtain ⟨k5, ρ3, k6, k7, k8⟩ := L_next ρ2
  have hG := (a2.rf k4).rf k8
  have hlo : k1 % ((R r).length + 1) ≤ (R r).length := by have := Nat.mod_lt k1 (show (R r).length + 1 > 0 by omega); omega
  have hb := Nat.mod_lt k5 (show 32 > 0 by omega)
  have mn := min_nI (x := (R r).length) (y := k1 % ((R r).length + 1) + k5 % 32)
  have m1 := Nat.div_mul_le_self k1 ((R r).length + 1)
  have e1 := md_eq k1 ((R r).length + 1)
  have e5 := md_eq k5 32
  obtain ⟨b1, hb1⟩ : ∃ z, z = k1 % ((R r).length + 1) := ⟨_, rfl⟩
  obtain ⟨b5, hb5⟩ : ∃ z, z = k5 % 32 := ⟨_, rfl⟩
  rw [← hb1] at hlo mn e1
  rw [← hb5] at hb mn e5
  obtain ⟨σ', ρ', R', t1, t2⟩ := L_sTail h hg hg' hg2 hn1 hn2 hn3 hr (what := 3) (by omega) (by omega) (lo := b1) (hi := min (R r).length (b1 + b5)) (by omega) (by omega) (fun z => by omega) (fun z => by omega) hG
  rw [show wNo 3 = 1 from rfl] at t1
  refine ⟨σ', ρ', R', ?_, t2⟩
  obtain ⟨T, hT⟩ : ∃ T, T = sTail := ⟨_, rfl⟩
  rw [sorts_t, ← hT]
  rw [← hT] at t1
  simp (disch := omega) only [↓bnd_s, ↓bnd2_s, ↓bnd3_s, ↓bnd4_s, ↓bnd5_s, ↓bndR_l, ↓bndR_r, ↓bndX_l, ↓bndX_r, ↓bndQ_s, ↓bndQ2_s, bndQ_s, bndQ2_s, bnd_s, bnd2_s, bnd3_s, bnd4_s, bnd5_s, bndR_l, bndR_r, bndX_l, bndX_r, nq_lt, nq_le, nq_inj, nq_add, nq_mul, nq_sub, nq_div, nq_neg1, nq_clamp, nq_ne1, nq_le1, ne1_lt, n1_lt0, n1_lt, n1_ne, nz0, nz1, nz2, nz3, nz4, nz5, nz6, nz8, nz10, nz31, nz32, nz50, nz400, nz800, nz3200, nz20000, nlt_f, nlt_t, nle_f, nle_t, neq_f, neq_t, gi_si_e, gi_si_n, gp_sp_e, gp_sp_n, gr_sr_e, gr_sr_n, gi_sp, gi_sr, gp_si, gp_sr, gr_si, gr_sp, upd_e, upd_n, un_e, un_n, an_sn_e, an_sn_n, an_sm, an_sv, am_sn, am_sm_e, am_sm_n, am_sv, ai_sn, ai_sm, ai_sv_e, ai_sv_n, reduceIte, or_false, false_or, or_true, true_or, or_self, and_true, true_and, and_false, false_and, not_true_eq_false, not_false_eq_true, a1, k3, k7]
  rw [e1, e5, mn]
  exact t1
theorem L_sorts1 (h : qIN a R σ) {r g g' g2 : Nat} (hg : g < 3) (hg' : g' < 3) (hg2 : g2 < 3) (hn1 : g ≠ g') (hn2 : g ≠ g2) (hn3 : g' ≠ g2) (hr : r < 4) (ρ : St) :
    ∃ (σ' ρ' : St) (R' : QR), f_L_sorts (nI r) (nI 1) g g' g2 σ ρ = some (nI 1, σ', ρ') ∧ qIN a R' σ' := by
  have hn := h.len hr
  obtain ⟨ρ1, a1, a2, a3, a4⟩ := L_sees h hr g ρ
  obtain ⟨σ', ρ', R', t1, t2⟩ := L_sTail h hg hg' hg2 hn1 hn2 hn3 hr (what := 1) (by omega) (by omega) (lo := 0) (hi := (R r).length) (by omega) (by omega) (fun _ => ⟨rfl, rfl⟩) (fun z => by omega) a2
  refine ⟨σ', ρ', R', ?_, t2⟩
  obtain ⟨T, hT⟩ : ∃ T, T = sTail := ⟨_, rfl⟩
  rw [sorts_t, ← hT]
  rw [← hT] at t1
  rw [show wNo 1 = 0 from rfl] at t1
  simp (disch := omega) only [↓bnd_s, ↓bnd2_s, ↓bnd3_s, ↓bnd4_s, ↓bnd5_s, ↓bndR_l, ↓bndR_r, ↓bndX_l, ↓bndX_r, ↓bndQ_s, ↓bndQ2_s, bndQ_s, bndQ2_s, bnd_s, bnd2_s, bnd3_s, bnd4_s, bnd5_s, bndR_l, bndR_r, bndX_l, bndX_r, nq_lt, nq_le, nq_inj, nq_add, nq_mul, nq_sub, nq_div, nq_neg1, nq_clamp, nq_ne1, nq_le1, ne1_lt, n1_lt0, n1_lt, n1_ne, nz0, nz1, nz2, nz3, nz4, nz5, nz6, nz8, nz10, nz31, nz32, nz50, nz400, nz800, nz3200, nz20000, nlt_f, nlt_t, nle_f, nle_t, neq_f, neq_t, gi_si_e, gi_si_n, gp_sp_e, gp_sp_n, gr_sr_e, gr_sr_n, gi_sp, gi_sr, gp_si, gp_sr, gr_si, gr_sp, upd_e, upd_n, un_e, un_n, an_sn_e, an_sn_n, an_sm, an_sv, am_sn, am_sm_e, am_sm_n, am_sv, ai_sn, ai_sm, ai_sv_e, ai_sv_n, reduceIte, or_false, false_or, or_true, true_or, or_self, and_true, true_and, and_false, false_and, not_true_eq_false, not_false_eq_true, a1]
  exact t1
theorem L_sorts4 (h : qIN a R σ) {r g g' g2 : Nat} (hg : g < 3) (hg' : g' < 3) (hg2 : g2 < 3) (hn1 : g ≠ g') (hn2 : g ≠ g2) (hn3 : g' ≠ g2) (hr : r < 4) (ρ : St) :
    ∃ (σ' ρ' : St) (R' : QR), f_L_sorts (nI r) (nI 4) g g' g2 σ ρ = some (nI 1, σ', ρ') ∧ qIN a R' σ' := by
  have hn := h.len hr
  obtain ⟨ρ1, a1, a2, a3, a4⟩ := L_sees h hr g ρ
  obtain ⟨σ', ρ', R', t1, t2⟩ := L_sTail h hg hg' hg2 hn1 hn2 hn3 hr (what := 4) (by omega) (by omega) (lo := 0) (hi := (R r).length) (by omega) (by omega) (fun _ => ⟨rfl, rfl⟩) (fun z => by omega) a2
  refine ⟨σ', ρ', R', ?_, t2⟩
  obtain ⟨T, hT⟩ : ∃ T, T = sTail := ⟨_, rfl⟩
  rw [sorts_t, ← hT]
  rw [← hT] at t1
  rw [show wNo 4 = 2 from rfl] at t1
  simp (disch := omega) only [↓bnd_s, ↓bnd2_s, ↓bnd3_s, ↓bnd4_s, ↓bnd5_s, ↓bndR_l, ↓bndR_r, ↓bndX_l, ↓bndX_r, ↓bndQ_s, ↓bndQ2_s, bndQ_s, bndQ2_s, bnd_s, bnd2_s, bnd3_s, bnd4_s, bnd5_s, bndR_l, bndR_r, bndX_l, bndX_r, nq_lt, nq_le, nq_inj, nq_add, nq_mul, nq_sub, nq_div, nq_neg1, nq_clamp, nq_ne1, nq_le1, ne1_lt, n1_lt0, n1_lt, n1_ne, nz0, nz1, nz2, nz3, nz4, nz5, nz6, nz8, nz10, nz31, nz32, nz50, nz400, nz800, nz3200, nz20000, nlt_f, nlt_t, nle_f, nle_t, neq_f, neq_t, gi_si_e, gi_si_n, gp_sp_e, gp_sp_n, gr_sr_e, gr_sr_n, gi_sp, gi_sr, gp_si, gp_sr, gr_si, gr_sp, upd_e, upd_n, un_e, un_n, an_sn_e, an_sn_n, an_sm, an_sv, am_sn, am_sm_e, am_sm_n, am_sv, ai_sn, ai_sm, ai_sv_e, ai_sv_n, reduceIte, or_false, false_or, or_true, true_or, or_self, and_true, true_and, and_false, false_and, not_true_eq_false, not_false_eq_true, a1]
  exact t1
theorem L_sorts5 (h : qIN a R σ) {r g g' g2 : Nat} (hg : g < 3) (hg' : g' < 3) (hg2 : g2 < 3) (hn1 : g ≠ g') (hn2 : g ≠ g2) (hn3 : g' ≠ g2) (hr : r < 4) (ρ : St) :
    ∃ (σ' ρ' : St) (R' : QR), f_L_sorts (nI r) (nI 5) g g' g2 σ ρ = some (nI 1, σ', ρ') ∧ qIN a R' σ' := by
  have hn := h.len hr
  obtain ⟨ρ1, a1, a2, a3, a4⟩ := L_sees h hr g ρ
  obtain ⟨σ', ρ', R', t1, t2⟩ := L_sTail h hg hg' hg2 hn1 hn2 hn3 hr (what := 5) (by omega) (by omega) (lo := 0) (hi := (R r).length) (by omega) (by omega) (fun _ => ⟨rfl, rfl⟩) (fun z => by omega) a2
  refine ⟨σ', ρ', R', ?_, t2⟩
  obtain ⟨T, hT⟩ : ∃ T, T = sTail := ⟨_, rfl⟩
  rw [sorts_t, ← hT]
  rw [← hT] at t1
  rw [show wNo 5 = 3 from rfl] at t1
  simp (disch := omega) only [↓bnd_s, ↓bnd2_s, ↓bnd3_s, ↓bnd4_s, ↓bnd5_s, ↓bndR_l, ↓bndR_r, ↓bndX_l, ↓bndX_r, ↓bndQ_s, ↓bndQ2_s, bndQ_s, bndQ2_s, bnd_s, bnd2_s, bnd3_s, bnd4_s, bnd5_s, bndR_l, bndR_r, bndX_l, bndX_r, nq_lt, nq_le, nq_inj, nq_add, nq_mul, nq_sub, nq_div, nq_neg1, nq_clamp, nq_ne1, nq_le1, ne1_lt, n1_lt0, n1_lt, n1_ne, nz0, nz1, nz2, nz3, nz4, nz5, nz6, nz8, nz10, nz31, nz32, nz50, nz400, nz800, nz3200, nz20000, nlt_f, nlt_t, nle_f, nle_t, neq_f, neq_t, gi_si_e, gi_si_n, gp_sp_e, gp_sp_n, gr_sr_e, gr_sr_n, gi_sp, gi_sr, gp_si, gp_sr, gr_si, gr_sp, upd_e, upd_n, un_e, un_n, an_sn_e, an_sn_n, an_sm, an_sv, am_sn, am_sm_e, am_sm_n, am_sv, ai_sn, ai_sm, ai_sv_e, ai_sv_n, reduceIte, or_false, false_or, or_true, true_or, or_self, and_true, true_and, and_false, false_and, not_true_eq_false, not_false_eq_true, a1]
  exact t1
theorem L_sorts (h : qIN a R σ) {r what g g' g2 : Nat} (hg : g < 3) (hg' : g' < 3) (hg2 : g2 < 3) (hn1 : g ≠ g') (hn2 : g ≠ g2) (hn3 : g' ≠ g2) (hr : r < 4) (hw : 1 ≤ what) (hw5 : what ≤ 5) (ρ : St) :
    ∃ (σ' ρ' : St) (R' : QR), f_L_sorts (nI r) (nI what) g g' g2 σ ρ = some (nI 1, σ', ρ') ∧ qIN a R' σ' := by
  rcases (show what = 1 ∨ what = 2 ∨ what = 3 ∨ what = 4 ∨ what = 5 by omega) with rfl | rfl | rfl | rfl | rfl
  · exact L_sorts1 h hg hg' hg2 hn1 hn2 hn3 hr ρ
  · exact L_sorts2 h hg hg' hg2 hn1 hn2 hn3 hr ρ
  · exact L_sorts3 h hg hg' hg2 hn1 hn2 hn3 hr ρ
  · exact L_sorts4 h hg hg' hg2 hn1 hn2 hn3 hr ρ
  · exact L_sorts5 h hg hg' hg2 hn1 hn2 hn3 hr ρ
theorem lsum_L {g : Nat} {L : List Int32} (hL : L.length ≤ 3200) (h : GD a g L ρ) : ∀ (d : Nat) {fu i : Nat} {s : Int64}, L.length - i = d → d < fu → i ≤ L.length → f_L_sum_L5 g (nI L.length) ρ fu s (nI i) = some (sKq (gL L) d i s) := by
  intro d
  induction d with
  | zero =>
    intro fu i s hd hf hi
    obtain ⟨fu, rfl⟩ : ∃ f, fu = f + 1 := ⟨fu - 1, by omega⟩
    unfold f_L_sum_L5 sKq; simp (disch := omega) only [↓bnd_s, ↓bnd2_s, ↓bnd3_s, ↓bnd4_s, ↓bnd5_s, ↓bndR_l, ↓bndR_r, ↓bndX_l, ↓bndX_r, ↓bndQ_s, ↓bndQ2_s, bndQ_s, bndQ2_s, bnd_s, bnd2_s, bnd3_s, bnd4_s, bnd5_s, bndR_l, bndR_r, bndX_l, bndX_r, nq_lt, nq_le, nq_inj, nq_add, nq_mul, nq_sub, nq_div, nq_neg1, nq_clamp, nq_ne1, nq_le1, ne1_lt, n1_lt0, n1_lt, n1_ne, nz0, nz1, nz2, nz3, nz4, nz5, nz6, nz8, nz10, nz31, nz32, nz50, nz400, nz800, nz3200, nz20000, nlt_f, nlt_t, nle_f, nle_t, neq_f, neq_t, gi_si_e, gi_si_n, gp_sp_e, gp_sp_n, gr_sr_e, gr_sr_n, gi_sp, gi_sr, gp_si, gp_sr, gr_si, gr_sp, upd_e, upd_n, un_e, un_n, an_sn_e, an_sn_n, an_sm, an_sv, am_sn, am_sm_e, am_sm_n, am_sv, ai_sn, ai_sm, ai_sv_e, ai_sv_n, reduceIte, or_false, false_or, or_true, true_or, or_self, and_true, true_and, and_false, false_and, not_true_eq_false, not_false_eq_true]
  | succ d ih =>
    intro fu i s hd hf hi
    obtain ⟨fu, rfl⟩ : ∃ f, fu = f + 1 := ⟨fu - 1, by omega⟩
    have e : gr ρ (4 + 3 * g + 2) i = gL L i := h i _ 2 (by omega) (by decide) (gL_at (by omega))
    have := ih (fu := fu) (i := i + 1) (s := s + ((nI i).toInt64 + (1 : Int64)) * ((gL L i).toInt64 + (1 : Int64))) (by omega) (by omega) (by omega)
    unfold f_L_sum_L5 sKq; simp (disch := omega) only [↓bnd_s, ↓bnd2_s, ↓bnd3_s, ↓bnd4_s, ↓bnd5_s, ↓bndR_l, ↓bndR_r, ↓bndX_l, ↓bndX_r, ↓bndQ_s, ↓bndQ2_s, bndQ_s, bndQ2_s, bnd_s, bnd2_s, bnd3_s, bnd4_s, bnd5_s, bndR_l, bndR_r, bndX_l, bndX_r, nq_lt, nq_le, nq_inj, nq_add, nq_mul, nq_sub, nq_div, nq_neg1, nq_clamp, nq_ne1, nq_le1, ne1_lt, n1_lt0, n1_lt, n1_ne, nz0, nz1, nz2, nz3, nz4, nz5, nz6, nz8, nz10, nz31, nz32, nz50, nz400, nz800, nz3200, nz20000, nlt_f, nlt_t, nle_f, nle_t, neq_f, neq_t, gi_si_e, gi_si_n, gp_sp_e, gp_sp_n, gr_sr_e, gr_sr_n, gi_sp, gi_sr, gp_si, gp_sr, gr_si, gr_sp, upd_e, upd_n, un_e, un_n, an_sn_e, an_sn_n, an_sm, an_sv, am_sn, am_sm_e, am_sm_n, am_sv, ai_sn, ai_sm, ai_sv_e, ai_sv_n, reduceIte, or_false, false_or, or_true, true_or, or_self, and_true, true_and, and_false, false_and, not_true_eq_false, not_false_eq_true, e]; exact this
theorem L_sum {g : Nat} {L : List Int32} (hL : L.length ≤ 3200) (h : GD a g L ρ) : f_L_sum g (nI L.length) ρ = some (sKq (gL L) L.length 0 0) := by
  have e := lsum_L hL h _ (fu := FU) (i := 0) (s := 0) rfl (by unfold FU; omega) (Nat.zero_le _)
  rw [Nat.sub_zero] at e
  unfold f_L_sum
  rw [nz0, e]; rfl
theorem ib_L (h : qIN a R σ) {r : Nat} (hr : r < 4) {g n : Nat} {S : List Int32} (hS : R r = S) (hn : n = S.length) (hG : GD a g S ρ) : ∀ (d : Nat) {fu i : Nat}, n - i = d → d < fu → i ≤ n → f_L_isBoth_L71 (nI r) g (nI n) σ ρ fu (nI 1) (nI i) = some (nI 1) := by
  have h8 := h.len hr
  rw [hS] at h8
  intro d
  induction d with
  | zero =>
    intro fu i hd hf hi
    obtain ⟨fu, rfl⟩ : ∃ f, fu = f + 1 := ⟨fu - 1, by omega⟩
    unfold f_L_isBoth_L71; simp (disch := omega) only [↓bnd_s, ↓bnd2_s, ↓bnd3_s, ↓bnd4_s, ↓bnd5_s, ↓bndR_l, ↓bndR_r, ↓bndX_l, ↓bndX_r, ↓bndQ_s, ↓bndQ2_s, bndQ_s, bndQ2_s, bnd_s, bnd2_s, bnd3_s, bnd4_s, bnd5_s, bndR_l, bndR_r, bndX_l, bndX_r, nq_lt, nq_le, nq_inj, nq_add, nq_mul, nq_sub, nq_div, nq_neg1, nq_clamp, nq_ne1, nq_le1, ne1_lt, n1_lt0, n1_lt, n1_ne, nz0, nz1, nz2, nz3, nz4, nz5, nz6, nz8, nz10, nz31, nz32, nz50, nz400, nz800, nz3200, nz20000, nlt_f, nlt_t, nle_f, nle_t, neq_f, neq_t, gi_si_e, gi_si_n, gp_sp_e, gp_sp_n, gr_sr_e, gr_sr_n, gi_sp, gi_sr, gp_si, gp_sr, gr_si, gr_sp, upd_e, upd_n, un_e, un_n, an_sn_e, an_sn_n, an_sm, an_sv, am_sn, am_sm_e, am_sm_n, am_sv, ai_sn, ai_sm, ai_sv_e, ai_sv_n, reduceIte, or_false, false_or, or_true, true_or, or_self, and_true, true_and, and_false, false_and, not_true_eq_false, not_false_eq_true]
  | succ d ih =>
    intro fu i hd hf hi
    obtain ⟨fu, rfl⟩ : ∃ f, fu = f + 1 := ⟨fu - 1, by omega⟩
    have hx := gL_at (L := S) (k := i) (by omega)
    have c := E_cardAt h hr (k := i) (w := 2) (x := gL S i) (by rw [hS]; exact hx) (by decide)
    rw [qWf2] at c
    have e : gr ρ (4 + 3 * g + 2) i = gL S i := hG i _ 2 (by omega) (by decide) hx
    have := ih (fu := fu) (i := i + 1) (by omega) (by omega) (by omega)
    unfold f_L_isBoth_L71; simp (disch := omega) only [↓bnd_s, ↓bnd2_s, ↓bnd3_s, ↓bnd4_s, ↓bnd5_s, ↓bndR_l, ↓bndR_r, ↓bndX_l, ↓bndX_r, ↓bndQ_s, ↓bndQ2_s, bndQ_s, bndQ2_s, bnd_s, bnd2_s, bnd3_s, bnd4_s, bnd5_s, bndR_l, bndR_r, bndX_l, bndX_r, nq_lt, nq_le, nq_inj, nq_add, nq_mul, nq_sub, nq_div, nq_neg1, nq_clamp, nq_ne1, nq_le1, ne1_lt, n1_lt0, n1_lt, n1_ne, nz0, nz1, nz2, nz3, nz4, nz5, nz6, nz8, nz10, nz31, nz32, nz50, nz400, nz800, nz3200, nz20000, nlt_f, nlt_t, nle_f, nle_t, neq_f, neq_t, gi_si_e, gi_si_n, gp_sp_e, gp_sp_n, gr_sr_e, gr_sr_n, gi_sp, gi_sr, gp_si, gp_sr, gr_si, gr_sp, upd_e, upd_n, un_e, un_n, an_sn_e, an_sn_n, an_sm, an_sv, am_sn, am_sm_e, am_sm_n, am_sv, ai_sn, ai_sm, ai_sv_e, ai_sv_n, reduceIte, or_false, false_or, or_true, true_or, or_self, and_true, true_and, and_false, false_and, not_true_eq_false, not_false_eq_true, c, e]; exact this
theorem lcmp_0 (x : Int64) : lg_cmp x x = nI 0 := by
  unfold lg_cmp
  simp
  exact nz0
theorem L_isBoth (h : qIN a R σ) {r g g' : Nat} (hg : g < 3) (hg' : g' < 3) (hne : g ≠ g') (hr : r < 4) (ρ : St) :
    ∃ (σ' ρ' : St) (R' : QR), f_L_isBoth (nI r) g g' σ ρ = some (nI 1, σ', ρ') ∧ qIN a R' σ' := by
  have hn := h.len hr
  obtain ⟨ρ1, a1, a2, a3, a4⟩ := L_sees h hr g ρ
  obtain ⟨σ1, b1, b2⟩ := D_keep h hr (nI 0) (nI 0)
  obtain ⟨ρ2, c1, c2, c3, c4⟩ := L_due (a := a) (ρ := ρ1) (g := g) (g' := g') (lo := 0) (hi := (R r).length) (L := R r) (t := 3) hg hg' hne (by omega) (by omega) (Nat.zero_le _) (Nat.le_refl _) a2
  rw [Nat.sub_zero, List.drop_zero, List.take_of_length_le (Nat.le_refl _)] at c1 c4
  obtain ⟨R1, hR1⟩ : ∃ z, z = qRs (qRs R (4 + r) (R r)) 8 (nI r :: R 8) := ⟨_, rfl⟩
  rw [← hR1] at b2
  have q1 : R1 r = R r := by rw [hR1, qRs_n _ _ (by omega), qRs_n _ _ (by omega)]
  have q2 : R1 (4 + r) = R r := by rw [hR1, qRs_n _ _ (by omega), qRs_e _ _ rfl]
  have q3 : nI r ∈ R1 8 := by rw [hR1, qRs_e _ _ rfl]; exact List.mem_cons_self
  obtain ⟨σ2, d1, d2⟩ := D_second b2 hr (nI 0) (nI 0)
  rw [q1] at d1 d2
  obtain ⟨σ3, e1, e2⟩ := D_sort d2 hr (nI 0) (nI 0)
  rw [qRs_e _ _ rfl] at e1
  rw [qRs_e _ _ rfl, qRs_qRs, both_eq] at e2
  have hl3 : (isrt (ky a 3) (R r)).length = (R r).length := isrt_len _ _
  have hG : GD a g' (isrt (ky a 3) (R r)) ρ2 := fun k x w hk hw hx => by
    have := c4 k x w hw hx
    rw [Nat.zero_add] at this
    exact this
  have f1 := ib_L e2 hr (g := g') (n := (R r).length) (S := isrt (ky a 3) (R r)) (qRs_e _ _ rfl) hl3.symm hG _ (fu := FU) (i := 0) rfl (by unfold FU; omega) (Nat.zero_le _)
  obtain ⟨σ4, g1, g2⟩ := D_both e2 hr (nI 0) (nI 0)
  rw [qRs_e _ _ rfl, srtN_is] at g1
  rw [qRs_e _ _ rfl, qRs_qRs, isrt_id (isrt_srt (ky a 3) _ (R r) rfl).1] at g2
  obtain ⟨σ5, i1, i2⟩ := D_restore g2 hr (by rw [qRs_n _ _ (by omega)]; exact q3) (by rw [qRs_n _ _ (by omega), qRs_e _ _ rfl, q2, hl3]) (nI 0) (nI 0)
  rw [qRs_e _ _ rfl, qRs_n _ _ (by omega), q2, hl3, dif_comm] at i1
  rw [qRs_qRs, qRs_n _ _ (by omega), q2] at i2
  have eD : dif (fun j => gL (R r) (0 + j)) (gL (isrt (ky a 3) (R r))) (R r).length = dif (gL (R r)) (gL (isrt (ky a 3) (R r))) (R r).length := dif_congr (fun k _ => by show gL (R r) (0 + k) = _; rw [Nat.zero_add]) (fun _ _ => rfl)
  rw [eD] at c1
  have j1 := E_sum i2 hr
  rw [qRs_e _ _ rfl] at j1
  have jg : sKq (gr σ5 (16 + r + 16)) (R r).length 0 0 = sKq (gL (R r)) (R r).length 0 0 := sKq_congr fun k _ hk => by
    have e := i2.at hr (k := k) (by rw [qRs_e _ _ rfl]; omega)
    rw [qRs_e _ _ rfl, gL_at (show k < (R r).length by omega)] at e
    exact (Option.some.inj e).symm
  rw [jg] at j1
  have k1 := L_sum (a := a) (ρ := ρ2) (g := g) (L := R r) (by omega) (a2.df c2 hg hne)
  have hd1 : srtN a 2 (R r) ≤ (R r).length := dif_le _ _ _
  have hd2 : srtN a 0 (isrt (ky a 2) (R r)) ≤ (isrt (ky a 2) (R r)).length := dif_le _ _ _
  rw [isrt_len] at hd2
  have hd3 : dif (gL (R r)) (gL (isrt (ky a 3) (R r))) (R r).length ≤ (R r).length := dif_le _ _ _
  refine ⟨σ5, ρ2, _, ?_, i2⟩
  have n12 : (12 : Int32) = nI 12 := rfl
  have n13 : (13 : Int32) = nI 13 := rfl
  rw [n12] at b1
  rw [n13] at i1
  rw [show (4 : Int32) = nI 4 from rfl] at d1
  rw [show (1 : Int32) = nI 1 from rfl] at e1
  rw [show (5 : Int32) = nI 5 from rfl] at g1
  unfold f_L_isBoth
  simp (disch := omega) only [↓bnd_s, ↓bnd2_s, ↓bnd3_s, ↓bnd4_s, ↓bnd5_s, ↓bndR_l, ↓bndR_r, ↓bndX_l, ↓bndX_r, ↓bndQ_s, ↓bndQ2_s, bndQ_s, bndQ2_s, bnd_s, bnd2_s, bnd3_s, bnd4_s, bnd5_s, bndR_l, bndR_r, bndX_l, bndX_r, nq_lt, nq_le, nq_inj, nq_add, nq_mul, nq_sub, nq_div, nq_neg1, nq_clamp, nq_ne1, nq_le1, ne1_lt, n1_lt0, n1_lt, n1_ne, nz0, nz1, nz2, nz3, nz4, nz5, nz6, nz8, nz10, nz31, nz32, nz50, nz400, nz800, nz3200, nz20000, nlt_f, nlt_t, nle_f, nle_t, neq_f, neq_t, gi_si_e, gi_si_n, gp_sp_e, gp_sp_n, gr_sr_e, gr_sr_n, gi_sp, gi_sr, gp_si, gp_sr, gr_si, gr_sp, upd_e, upd_n, un_e, un_n, an_sn_e, an_sn_n, an_sm, an_sv, am_sn, am_sm_e, am_sm_n, am_sv, ai_sn, ai_sm, ai_sv_e, ai_sv_n, reduceIte, or_false, false_or, or_true, true_or, or_self, and_true, true_and, and_false, false_and, not_true_eq_false, not_false_eq_true, a1, n12, b1, c1, d1, e1, f1, g1, n13, i1, j1, k1, lcmp_0]
end LX
