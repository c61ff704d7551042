/-! the bytes of a long -/
def Bt (x : Int64) (k : Nat) : Nat := (x.toUInt64.toNat >>> (8 * k)) % 256
theorem Bt_lt (x : Int64) (k : Nat) : Bt x k < 256 := Nat.mod_lt _ (by decide)
theorem sh_nat {k : Nat} (hk : k < 8) : ((nI (8 * k)).toInt64.toUInt64 &&& Int64.toUInt64 63).toNat % 64 = 8 * k := by
  have : ∀ k : Nat, k < 8 → ((nI (8 * k)).toInt64.toUInt64 &&& Int64.toUInt64 63).toNat % 64 = 8 * k := by decide +kernel
  exact this k hk
theorem sh_eq (x : Int64) {k : Nat} (hk : k < 8) : (x.toUInt64 >>> ((nI (8 * k)).toInt64.toUInt64 &&& Int64.toUInt64 63)).toNat = x.toUInt64.toNat >>> (8 * k) := by
  rw [UInt64.toNat_shiftRight, sh_nat hk]
theorem byte_c0 (u : UInt64) : (u.toInt64.toInt32).toInt8 = (nI (u.toNat % 256)).toInt8 := by
  apply Int8.toBitVec_inj.mp
  apply BitVec.eq_of_toNat_eq
  show (BitVec.signExtend 8 (BitVec.signExtend 32 u.toBitVec)).toNat = (BitVec.signExtend 8 (BitVec.ofNat 32 (u.toNat % 256))).toNat
  rw [BitVec.signExtend_eq_setWidth_of_le _ (by decide), BitVec.signExtend_eq_setWidth_of_le _ (by decide), BitVec.signExtend_eq_setWidth_of_le _ (by decide), BitVec.toNat_setWidth, BitVec.toNat_setWidth, BitVec.toNat_setWidth, BitVec.toNat_ofNat]
  show u.toNat % 2 ^ 32 % 2 ^ 8 = u.toNat % 256 % 2 ^ 32 % 2 ^ 8
  omega
theorem byte_c (x : Int64) {k : Nat} (hk : k < 8) : (((x.toUInt64 >>> ((nI (8 * k)).toInt64.toUInt64 &&& Int64.toUInt64 63)).toInt64).toInt32).toInt8.toInt32 = (nI (Bt x k)).toInt8.toInt32 := by
  rw [byte_c0, sh_eq x hk]; rfl
theorem byte_m0 (u : UInt64) : (u.toInt64 &&& (255 : Int64)) = Int64.ofNat (u.toNat % 256) := by
  apply Int64.toBitVec_inj.mp
  apply BitVec.eq_of_toNat_eq
  show (u.toBitVec &&& 255#64).toNat = (BitVec.ofNat 64 (u.toNat % 256)).toNat
  rw [BitVec.toNat_and, BitVec.toNat_ofNat, BitVec.toNat_ofNat]
  show u.toNat &&& (2 ^ 8 - 1) = _
  rw [Nat.and_two_pow_sub_one_eq_mod]
  have := Nat.mod_lt u.toNat (show 256 > 0 by decide)
  omega
theorem byte_m (x : Int64) {k : Nat} (hk : k < 8) : ((x.toUInt64 >>> ((nI (8 * k)).toInt64.toUInt64 &&& Int64.toUInt64 63)).toInt64 &&& (255 : Int64)) = Int64.ofNat (Bt x k) := by
  rw [byte_m0, sh_eq x hk]; rfl
theorem bt_all : ∀ B : Nat, B < 256 → ((nI B).toInt8.toInt32 = nI 0 ↔ B = 0) ∧ vp_nar .byte ((nI B).toInt8.toInt32) = (nI B).toInt8.toInt32 ∧ (lg_cmp (Int64.ofNat B) 0 = nI 0 ↔ B = 0) ∧ (Int64.ofNat B).toInt32 = nI B := by decide +kernel
def cb (x : Int64) : Nat → Nat
  | 0 => 0
  | k + 1 => cb x k + if Bt x k = 0 then 0 else 1
theorem cb_le (x : Int64) : ∀ k, cb x k ≤ k
  | 0 => Nat.le_refl _
  | k + 1 => by
    have := cb_le x k
    unfold cb
    split <;> omega
theorem cb_s (x : Int64) (k : Nat) : cb x (k + 1) = cb x k + if Bt x k = 0 then 0 else 1 := rfl
def Vd (j : Nat) : Int32 := nI (8 * j) + -nI 8
theorem Vd_0 : Vd 0 < nI 0 := by decide +kernel
theorem Vd_s (j : Nat) : Vd (j + 1) = nI (8 * j) := by
  unfold Vd
  rw [← Int32.sub_eq_add_neg, nq_sub (by omega), show 8 * (j + 1) - 8 = 8 * j by omega]
def Wd (j : Nat) : Int32 := nI j + -nI 1
theorem Wd_0 : Wd 0 < nI 0 := by decide +kernel
theorem Wd_s (j : Nat) : Wd (j + 1) = nI j := by
  unfold Wd
  rw [nq_neg1 (by omega), Nat.add_sub_cancel]
theorem V_nn {j : Nat} (hj : j < 100) : ¬ nI (8 * j) < nI 0 := by rw [nq_lt (by omega) (by omega)]; omega
theorem W_nn {j : Nat} (hj : j < 100) : ¬ nI j < nI 0 := by rw [nq_lt (by omega) (by omega)]; omega
theorem bytesIn_L (x : Int64) : ∀ (j : Nat) {fu c : Nat}, j ≤ 8 → j < fu → f_X9_bytesIn_L5 x fu (nI c) (Vd j) = some (nI (c + cb x j)) := by
  intro j
  induction j with
  | zero =>
    intro fu c hj hf
    obtain ⟨fu, rfl⟩ : ∃ f, fu = f + 1 := ⟨fu - 1, by omega⟩
    unfold f_X9_bytesIn_L5; rw [nz0, if_pos Vd_0]; rfl
  | succ j ih =>
    intro fu c hj hf
    obtain ⟨fu, rfl⟩ : ∃ f, fu = f + 1 := ⟨fu - 1, by omega⟩
    obtain ⟨b1, b2, b3, b4⟩ := bt_all (Bt x j) (Bt_lt x j)
    unfold f_X9_bytesIn_L5
    rw [Vd_s, byte_c x (show j < 8 by omega), nz0, nz1, cb_s, if_neg (V_nn (by omega)), nz8]
    by_cases e : Bt x j = 0
    · rw [if_pos (b1.mpr e), if_pos e, bnd_s, Nat.add_zero]
      exact ih (by omega) (by omega)
    · rw [if_neg (fun q => e (b1.mp q)), if_neg e, bnd_s, nq_add, Nat.add_comm (cb x j), ← Nat.add_assoc]
      exact ih (by omega) (by omega)
theorem bytesIn_eq (x : Int64) : f_X9_bytesIn x = some (nI (cb x 8)) := by
  unfold f_X9_bytesIn
  have := bytesIn_L x 8 (fu := FU) (c := 0) (by omega) (by unfold FU; omega)
  rw [show Vd 8 = nI 56 from Vd_s 7, Nat.zero_add] at this
  rw [nz0, show (56 : Int32) = nI 56 from rfl, this]; rfl
theorem more_L (x : Int64) : ∀ (d : Nat) {fu k : Nat}, 8 - k = d → k ≤ 8 → d < fu → f_X11_type_L5 x fu (nI (cb x k)) (nI k) = some (nI (cb x 8)) := by
  intro d
  induction d with
  | zero =>
    intro fu k hd hk hf
    obtain ⟨fu, rfl⟩ : ∃ f, fu = f + 1 := ⟨fu - 1, by omega⟩
    have e : k = 8 := by omega
    subst e
    unfold f_X11_type_L5; rw [nz8, if_pos (show nI 8 ≤ nI 8 by decide +kernel)]
  | succ d ih =>
    intro fu k hd hk hf
    obtain ⟨fu, rfl⟩ : ∃ f, fu = f + 1 := ⟨fu - 1, by omega⟩
    obtain ⟨b1, b2, b3, b4⟩ := bt_all (Bt x k) (Bt_lt x k)
    have := ih (fu := fu) (k := k + 1) (by omega) (by omega) (by omega)
    rw [cb_s] at this
    unfold f_X11_type_L5
    rw [nz8, nz1, nz0, if_neg (show ¬ nI 8 ≤ nI k by rw [nq_le (by omega) (by omega)]; omega), nq_mul, byte_m x (show k < 8 by omega)]
    by_cases e : Bt x k = 0
    · rw [if_pos (b3.mpr e), bnd_s, nq_add, nq_add]
      rw [if_pos e] at this
      exact this
    · rw [if_neg (fun q => e (b3.mp q)), bnd_s, nq_add, nq_add]
      rw [if_neg e] at this
      exact this
section O9
variable {a : AS} {σ τ : St}
/-- a byte is typed -/
theorem REL.push (h : REL a σ τ) {B : Nat} (hB : 1 ≤ B) (hB2 : B ≤ 255) (hL : an a 1 < 400) :
    REL (sn (sm a 8 (un (am a 8) (an a 1) B)) 1 (an a 1 + 1)) (si (sr σ 11 (upd (gr σ 11) (an a 1) ((nI B).toInt8.toInt32))) 81 (nI (an a 1 + 1))) (si (sr τ 8 (upd (gr τ 8) (an a 1) (nI B))) 8 (nI (an a 1 + 1))) := by
  refine ⟨?_, ?_, ?_, ?_, ?_, ?_, ?_, ?_, ?_, ?_, ?_⟩
  · obtain ⟨h1, h2, h3, h4, h5, h6, h7, h8, h9, h10⟩ := h.wa
    refine ⟨?_, ?_, ?_, ?_, fun r' hr' => ?_, fun r' hr' => ?_, fun r' k' hr' hk' => ?_, fun r' k' hr' hk' => ?_, fun k' hk' => ?_, fun r' hr' hk' => ?_⟩
    · simp (disch := omega) only [gi_si_e, gi_si_n, gp_sp_e, gp_sp_n, gr_sr_e, gr_sr_n, gi_sp, gi_sr, gp_si, gp_sr, gr_si, gr_sp, upd_e, upd_n, un_e, un_n, an_sn_e, an_sn_n, an_sm, an_sv, am_sn, am_sm_e, am_sm_n, am_sv, ai_sn, ai_sm, ai_sv_e, ai_sv_n, reduceIte, or_false, false_or, or_true, true_or, or_self, and_true, true_and, and_false, false_and, not_true_eq_false, not_false_eq_true]; exact h1
    · simp (disch := omega) only [gi_si_e, gi_si_n, gp_sp_e, gp_sp_n, gr_sr_e, gr_sr_n, gi_sp, gi_sr, gp_si, gp_sr, gr_si, gr_sp, upd_e, upd_n, un_e, un_n, an_sn_e, an_sn_n, an_sm, an_sv, am_sn, am_sm_e, am_sm_n, am_sv, ai_sn, ai_sm, ai_sv_e, ai_sv_n, reduceIte, or_false, false_or, or_true, true_or, or_self, and_true, true_and, and_false, false_and, not_true_eq_false, not_false_eq_true]; omega
    · simp (disch := omega) only [gi_si_e, gi_si_n, gp_sp_e, gp_sp_n, gr_sr_e, gr_sr_n, gi_sp, gi_sr, gp_si, gp_sr, gr_si, gr_sp, upd_e, upd_n, un_e, un_n, an_sn_e, an_sn_n, an_sm, an_sv, am_sn, am_sm_e, am_sm_n, am_sv, ai_sn, ai_sm, ai_sv_e, ai_sv_n, reduceIte, or_false, false_or, or_true, true_or, or_self, and_true, true_and, and_false, false_and, not_true_eq_false, not_false_eq_true]; exact h3
    · simp (disch := omega) only [gi_si_e, gi_si_n, gp_sp_e, gp_sp_n, gr_sr_e, gr_sr_n, gi_sp, gi_sr, gp_si, gp_sr, gr_si, gr_sp, upd_e, upd_n, un_e, un_n, an_sn_e, an_sn_n, an_sm, an_sv, am_sn, am_sm_e, am_sm_n, am_sv, ai_sn, ai_sm, ai_sv_e, ai_sv_n, reduceIte, or_false, false_or, or_true, true_or, or_self, and_true, true_and, and_false, false_and, not_true_eq_false, not_false_eq_true]; exact h4
    · simp (disch := omega) only [gi_si_e, gi_si_n, gp_sp_e, gp_sp_n, gr_sr_e, gr_sr_n, gi_sp, gi_sr, gp_si, gp_sr, gr_si, gr_sp, upd_e, upd_n, un_e, un_n, an_sn_e, an_sn_n, an_sm, an_sv, am_sn, am_sm_e, am_sm_n, am_sv, ai_sn, ai_sm, ai_sv_e, ai_sv_n, reduceIte, or_false, false_or, or_true, true_or, or_self, and_true, true_and, and_false, false_and, not_true_eq_false, not_false_eq_true]; exact h5 _ hr'
    · simp (disch := omega) only [gi_si_e, gi_si_n, gp_sp_e, gp_sp_n, gr_sr_e, gr_sr_n, gi_sp, gi_sr, gp_si, gp_sr, gr_si, gr_sp, upd_e, upd_n, un_e, un_n, an_sn_e, an_sn_n, an_sm, an_sv, am_sn, am_sm_e, am_sm_n, am_sv, ai_sn, ai_sm, ai_sv_e, ai_sv_n, reduceIte, or_false, false_or, or_true, true_or, or_self, and_true, true_and, and_false, false_and, not_true_eq_false, not_false_eq_true]; exact h6 _ hr'
    · rw [an_sn_n _ _ (by omega), an_sm] at hk'
      simp (disch := omega) only [gi_si_e, gi_si_n, gp_sp_e, gp_sp_n, gr_sr_e, gr_sr_n, gi_sp, gi_sr, gp_si, gp_sr, gr_si, gr_sp, upd_e, upd_n, un_e, un_n, an_sn_e, an_sn_n, an_sm, an_sv, am_sn, am_sm_e, am_sm_n, am_sv, ai_sn, ai_sm, ai_sv_e, ai_sv_n, reduceIte, or_false, false_or, or_true, true_or, or_self, and_true, true_and, and_false, false_and, not_true_eq_false, not_false_eq_true]; exact h7 _ _ hr' hk'
    · rw [an_sn_n _ _ (by omega), an_sm] at hk'
      simp (disch := omega) only [gi_si_e, gi_si_n, gp_sp_e, gp_sp_n, gr_sr_e, gr_sr_n, gi_sp, gi_sr, gp_si, gp_sr, gr_si, gr_sp, upd_e, upd_n, un_e, un_n, an_sn_e, an_sn_n, an_sm, an_sv, am_sn, am_sm_e, am_sm_n, am_sv, ai_sn, ai_sm, ai_sv_e, ai_sv_n, reduceIte, or_false, false_or, or_true, true_or, or_self, and_true, true_and, and_false, false_and, not_true_eq_false, not_false_eq_true]; exact h8 _ _ hr' hk'
    · rw [an_sn_e _ _ rfl] at hk'
      by_cases e : k' = an a 1
      · simp (disch := omega) only [gi_si_e, gi_si_n, gp_sp_e, gp_sp_n, gr_sr_e, gr_sr_n, gi_sp, gi_sr, gp_si, gp_sr, gr_si, gr_sp, upd_e, upd_n, un_e, un_n, an_sn_e, an_sn_n, an_sm, an_sv, am_sn, am_sm_e, am_sm_n, am_sv, ai_sn, ai_sm, ai_sv_e, ai_sv_n, reduceIte, or_false, false_or, or_true, true_or, or_self, and_true, true_and, and_false, false_and, not_true_eq_false, not_false_eq_true]; exact ⟨hB, hB2⟩
      · simp (disch := omega) only [gi_si_e, gi_si_n, gp_sp_e, gp_sp_n, gr_sr_e, gr_sr_n, gi_sp, gi_sr, gp_si, gp_sr, gr_si, gr_sp, upd_e, upd_n, un_e, un_n, an_sn_e, an_sn_n, an_sm, an_sv, am_sn, am_sm_e, am_sm_n, am_sv, ai_sn, ai_sm, ai_sv_e, ai_sv_n, reduceIte, or_false, false_or, or_true, true_or, or_self, and_true, true_and, and_false, false_and, not_true_eq_false, not_false_eq_true]; exact h9 _ (by omega)
    · rw [an_sn_n _ _ (by omega), an_sm] at hk' ⊢
      exact h10 _ hr' hk'
  · have := h.cd; unfold CD at this ⊢; simp (disch := omega) only [gi_si_e, gi_si_n, gp_sp_e, gp_sp_n, gr_sr_e, gr_sr_n, gi_sp, gi_sr, gp_si, gp_sr, gr_si, gr_sp, upd_e, upd_n, un_e, un_n, an_sn_e, an_sn_n, an_sm, an_sv, am_sn, am_sm_e, am_sm_n, am_sv, ai_sn, ai_sm, ai_sv_e, ai_sv_n, reduceIte, or_false, false_or, or_true, true_or, or_self, and_true, true_and, and_false, false_and, not_true_eq_false, not_false_eq_true]; exact this
  · have := h.cr
    refine ⟨fun r' hr' => ?_, fun r' k' hr' hk' => ?_⟩
    · simp (disch := omega) only [gi_si_e, gi_si_n, gp_sp_e, gp_sp_n, gr_sr_e, gr_sr_n, gi_sp, gi_sr, gp_si, gp_sr, gr_si, gr_sp, upd_e, upd_n, un_e, un_n, an_sn_e, an_sn_n, an_sm, an_sv, am_sn, am_sm_e, am_sm_n, am_sv, ai_sn, ai_sm, ai_sv_e, ai_sv_n, reduceIte, or_false, false_or, or_true, true_or, or_self, and_true, true_and, and_false, false_and, not_true_eq_false, not_false_eq_true]; exact this.1 _ hr'
    · rw [an_sn_n _ _ (by omega), an_sm] at hk'; simp (disch := omega) only [gi_si_e, gi_si_n, gp_sp_e, gp_sp_n, gr_sr_e, gr_sr_n, gi_sp, gi_sr, gp_si, gp_sr, gr_si, gr_sp, upd_e, upd_n, un_e, un_n, an_sn_e, an_sn_n, an_sm, an_sv, am_sn, am_sm_e, am_sm_n, am_sv, ai_sn, ai_sm, ai_sv_e, ai_sv_n, reduceIte, or_false, false_or, or_true, true_or, or_self, and_true, true_and, and_false, false_and, not_true_eq_false, not_false_eq_true]; exact this.2 _ _ hr' hk'
  · have := h.ck
    refine ⟨fun r' hr' => ?_, fun r' k' hr' hk' => ?_, fun r' hr' => ?_⟩
    · simp (disch := omega) only [gi_si_e, gi_si_n, gp_sp_e, gp_sp_n, gr_sr_e, gr_sr_n, gi_sp, gi_sr, gp_si, gp_sr, gr_si, gr_sp, upd_e, upd_n, un_e, un_n, an_sn_e, an_sn_n, an_sm, an_sv, am_sn, am_sm_e, am_sm_n, am_sv, ai_sn, ai_sm, ai_sv_e, ai_sv_n, reduceIte, or_false, false_or, or_true, true_or, or_self, and_true, true_and, and_false, false_and, not_true_eq_false, not_false_eq_true]; exact this.1 _ hr'
    · rw [an_sn_n _ _ (by omega), an_sm] at hk'; simp (disch := omega) only [gi_si_e, gi_si_n, gp_sp_e, gp_sp_n, gr_sr_e, gr_sr_n, gi_sp, gi_sr, gp_si, gp_sr, gr_si, gr_sp, upd_e, upd_n, un_e, un_n, an_sn_e, an_sn_n, an_sm, an_sv, am_sn, am_sm_e, am_sm_n, am_sv, ai_sn, ai_sm, ai_sv_e, ai_sv_n, reduceIte, or_false, false_or, or_true, true_or, or_self, and_true, true_and, and_false, false_and, not_true_eq_false, not_false_eq_true]; exact this.2.1 _ _ hr' hk'
    · simp (disch := omega) only [gi_si_e, gi_si_n, gp_sp_e, gp_sp_n, gr_sr_e, gr_sr_n, gi_sp, gi_sr, gp_si, gp_sr, gr_si, gr_sp, upd_e, upd_n, un_e, un_n, an_sn_e, an_sn_n, an_sm, an_sv, am_sn, am_sm_e, am_sm_n, am_sv, ai_sn, ai_sm, ai_sv_e, ai_sv_n, reduceIte, or_false, false_or, or_true, true_or, or_self, and_true, true_and, and_false, false_and, not_true_eq_false, not_false_eq_true]; exact this.2.2 _ hr'
  · have := h.ct
    refine ⟨by simp (disch := omega) only [gi_si_e, gi_si_n, gp_sp_e, gp_sp_n, gr_sr_e, gr_sr_n, gi_sp, gi_sr, gp_si, gp_sr, gr_si, gr_sp, upd_e, upd_n, un_e, un_n, an_sn_e, an_sn_n, an_sm, an_sv, am_sn, am_sm_e, am_sm_n, am_sv, ai_sn, ai_sm, ai_sv_e, ai_sv_n, reduceIte, or_false, false_or, or_true, true_or, or_self, and_true, true_and, and_false, false_and, not_true_eq_false, not_false_eq_true], fun k hk => ?_⟩
    rw [an_sn_e _ _ rfl] at hk
    by_cases e : k = an a 1
    · simp (disch := omega) only [gi_si_e, gi_si_n, gp_sp_e, gp_sp_n, gr_sr_e, gr_sr_n, gi_sp, gi_sr, gp_si, gp_sr, gr_si, gr_sp, upd_e, upd_n, un_e, un_n, an_sn_e, an_sn_n, an_sm, an_sv, am_sn, am_sm_e, am_sm_n, am_sv, ai_sn, ai_sm, ai_sv_e, ai_sv_n, reduceIte, or_false, false_or, or_true, true_or, or_self, and_true, true_and, and_false, false_and, not_true_eq_false, not_false_eq_true]
    · simp (disch := omega) only [gi_si_e, gi_si_n, gp_sp_e, gp_sp_n, gr_sr_e, gr_sr_n, gi_sp, gi_sr, gp_si, gp_sr, gr_si, gr_sp, upd_e, upd_n, un_e, un_n, an_sn_e, an_sn_n, an_sm, an_sv, am_sn, am_sm_e, am_sm_n, am_sv, ai_sn, ai_sm, ai_sv_e, ai_sv_n, reduceIte, or_false, false_or, or_true, true_or, or_self, and_true, true_and, and_false, false_and, not_true_eq_false, not_false_eq_true]; exact this.2 _ (by omega)
  · have := h.cx; unfold CX at this ⊢; simp (disch := omega) only [gi_si_e, gi_si_n, gp_sp_e, gp_sp_n, gr_sr_e, gr_sr_n, gi_sp, gi_sr, gp_si, gp_sr, gr_si, gr_sp, upd_e, upd_n, un_e, un_n, an_sn_e, an_sn_n, an_sm, an_sv, am_sn, am_sm_e, am_sm_n, am_sv, ai_sn, ai_sm, ai_sv_e, ai_sv_n, reduceIte, or_false, false_or, or_true, true_or, or_self, and_true, true_and, and_false, false_and, not_true_eq_false, not_false_eq_true]; exact this
  · have := h.md; unfold MD at this ⊢; simp (disch := omega) only [gi_si_e, gi_si_n, gp_sp_e, gp_sp_n, gr_sr_e, gr_sr_n, gi_sp, gi_sr, gp_si, gp_sr, gr_si, gr_sp, upd_e, upd_n, un_e, un_n, an_sn_e, an_sn_n, an_sm, an_sv, am_sn, am_sm_e, am_sm_n, am_sv, ai_sn, ai_sm, ai_sv_e, ai_sv_n, reduceIte, or_false, false_or, or_true, true_or, or_self, and_true, true_and, and_false, false_and, not_true_eq_false, not_false_eq_true]; exact this
  · have := h.mr
    refine ⟨fun r' hr' => ?_, fun r' k' hr' hk' => ?_⟩
    · simp (disch := omega) only [gi_si_e, gi_si_n, gp_sp_e, gp_sp_n, gr_sr_e, gr_sr_n, gi_sp, gi_sr, gp_si, gp_sr, gr_si, gr_sp, upd_e, upd_n, un_e, un_n, an_sn_e, an_sn_n, an_sm, an_sv, am_sn, am_sm_e, am_sm_n, am_sv, ai_sn, ai_sm, ai_sv_e, ai_sv_n, reduceIte, or_false, false_or, or_true, true_or, or_self, and_true, true_and, and_false, false_and, not_true_eq_false, not_false_eq_true]; exact this.1 _ hr'
    · rw [an_sn_n _ _ (by omega), an_sm] at hk'; simp (disch := omega) only [gi_si_e, gi_si_n, gp_sp_e, gp_sp_n, gr_sr_e, gr_sr_n, gi_sp, gi_sr, gp_si, gp_sr, gr_si, gr_sp, upd_e, upd_n, un_e, un_n, an_sn_e, an_sn_n, an_sm, an_sv, am_sn, am_sm_e, am_sm_n, am_sv, ai_sn, ai_sm, ai_sv_e, ai_sv_n, reduceIte, or_false, false_or, or_true, true_or, or_self, and_true, true_and, and_false, false_and, not_true_eq_false, not_false_eq_true]; exact this.2 _ _ hr' hk'
  · have := h.mk
    refine ⟨fun r' hr' => ?_, fun r' k' hr' hk' => ?_⟩
    · simp (disch := omega) only [gi_si_e, gi_si_n, gp_sp_e, gp_sp_n, gr_sr_e, gr_sr_n, gi_sp, gi_sr, gp_si, gp_sr, gr_si, gr_sp, upd_e, upd_n, un_e, un_n, an_sn_e, an_sn_n, an_sm, an_sv, am_sn, am_sm_e, am_sm_n, am_sv, ai_sn, ai_sm, ai_sv_e, ai_sv_n, reduceIte, or_false, false_or, or_true, true_or, or_self, and_true, true_and, and_false, false_and, not_true_eq_false, not_false_eq_true]; exact this.1 _ hr'
    · rw [an_sn_n _ _ (by omega), an_sm] at hk'; simp (disch := omega) only [gi_si_e, gi_si_n, gp_sp_e, gp_sp_n, gr_sr_e, gr_sr_n, gi_sp, gi_sr, gp_si, gp_sr, gr_si, gr_sp, upd_e, upd_n, un_e, un_n, an_sn_e, an_sn_n, an_sm, an_sv, am_sn, am_sm_e, am_sm_n, am_sv, ai_sn, ai_sm, ai_sv_e, ai_sv_n, reduceIte, or_false, false_or, or_true, true_or, or_self, and_true, true_and, and_false, false_and, not_true_eq_false, not_false_eq_true]; exact this.2 _ _ hr' hk'
  · have := h.mt
    refine ⟨by simp (disch := omega) only [gi_si_e, gi_si_n, gp_sp_e, gp_sp_n, gr_sr_e, gr_sr_n, gi_sp, gi_sr, gp_si, gp_sr, gr_si, gr_sp, upd_e, upd_n, un_e, un_n, an_sn_e, an_sn_n, an_sm, an_sv, am_sn, am_sm_e, am_sm_n, am_sv, ai_sn, ai_sm, ai_sv_e, ai_sv_n, reduceIte, or_false, false_or, or_true, true_or, or_self, and_true, true_and, and_false, false_and, not_true_eq_false, not_false_eq_true], fun k hk => ?_⟩
    rw [an_sn_e _ _ rfl] at hk
    by_cases e : k = an a 1
    · simp (disch := omega) only [gi_si_e, gi_si_n, gp_sp_e, gp_sp_n, gr_sr_e, gr_sr_n, gi_sp, gi_sr, gp_si, gp_sr, gr_si, gr_sp, upd_e, upd_n, un_e, un_n, an_sn_e, an_sn_n, an_sm, an_sv, am_sn, am_sm_e, am_sm_n, am_sv, ai_sn, ai_sm, ai_sv_e, ai_sv_n, reduceIte, or_false, false_or, or_true, true_or, or_self, and_true, true_and, and_false, false_and, not_true_eq_false, not_false_eq_true]
    · simp (disch := omega) only [gi_si_e, gi_si_n, gp_sp_e, gp_sp_n, gr_sr_e, gr_sr_n, gi_sp, gi_sr, gp_si, gp_sr, gr_si, gr_sp, upd_e, upd_n, un_e, un_n, an_sn_e, an_sn_n, an_sm, an_sv, am_sn, am_sm_e, am_sm_n, am_sv, ai_sn, ai_sm, ai_sv_e, ai_sv_n, reduceIte, or_false, false_or, or_true, true_or, or_self, and_true, true_and, and_false, false_and, not_true_eq_false, not_false_eq_true]; exact this.2 _ (by omega)
  · have := h.mx; unfold MX at this ⊢; simp (disch := omega) only [gi_si_e, gi_si_n, gp_sp_e, gp_sp_n, gr_sr_e, gr_sr_n, gi_sp, gi_sr, gp_si, gp_sr, gr_si, gr_sp, upd_e, upd_n, un_e, un_n, an_sn_e, an_sn_n, an_sm, an_sv, am_sn, am_sm_e, am_sm_n, am_sv, ai_sn, ai_sm, ai_sv_e, ai_sv_n, reduceIte, or_false, false_or, or_true, true_or, or_self, and_true, true_and, and_false, false_and, not_true_eq_false, not_false_eq_true]; exact this
theorem typed_L (x : Int64) : ∀ (j : Nat) {fu gu : Nat} {a : AS} {σ τ : St}, REL a σ τ → j ≤ 8 → j < fu → j < gu → an a 1 + cb x j ≤ 400 →
    ∃ (σ' τ' : St) (a' : AS), f_X9_append_L3 x fu (Vd j) σ = some σ' ∧ f_X11_type_L64 x gu (Wd j) τ = some τ' ∧ REL a' σ' τ' := by
  intro j
  induction j with
  | zero =>
    intro fu gu a σ τ h hj hf hg hL
    obtain ⟨fu, rfl⟩ : ∃ f, fu = f + 1 := ⟨fu - 1, by omega⟩
    obtain ⟨gu, rfl⟩ : ∃ f, gu = f + 1 := ⟨gu - 1, by omega⟩
    refine ⟨σ, τ, a, ?_, ?_, h⟩
    · unfold f_X9_append_L3; rw [nz0, if_pos Vd_0]
    · unfold f_X11_type_L64; rw [nz0, if_pos Wd_0]
  | succ j ih =>
    intro fu gu a σ τ h hj hf hg hL
    obtain ⟨fu, rfl⟩ : ∃ f, fu = f + 1 := ⟨fu - 1, by omega⟩
    obtain ⟨gu, rfl⟩ : ∃ f, gu = f + 1 := ⟨gu - 1, by omega⟩
    obtain ⟨b1, b2, b3, b4⟩ := bt_all (Bt x j) (Bt_lt x j)
    have hB := Bt_lt x j
    rw [cb_s] at hL
    by_cases e : Bt x j = 0
    · rw [if_pos e] at hL
      obtain ⟨σ', τ', a', e1, e2, e3⟩ := ih (fu := fu) (gu := gu) h (by omega) (by omega) (by omega) (by omega)
      refine ⟨σ', τ', a', ?_, ?_, e3⟩
      · unfold f_X9_append_L3
        rw [Vd_s, byte_c x (show j < 8 by omega), nz0, if_neg (V_nn (by omega)), nz8, if_pos (b1.mpr e), bnd_s]
        exact e1
      · unfold f_X11_type_L64
        rw [Wd_s, nz8, nz0, nz1, nq_mul, byte_m x (show j < 8 by omega), b4, if_neg (W_nn (by omega)), if_pos (show nI (Bt x j) = nI 0 by rw [e]), bnd_s]
        exact e2
    · rw [if_neg e] at hL
      have hL2 : an a 1 < 400 := by omega
      have h' := h.push (B := Bt x j) (by omega) (by omega) hL2
      obtain ⟨σ', τ', a', e1, e2, e3⟩ := ih (fu := fu) (gu := gu) h' (by omega) (by omega) (by omega) (by simp (disch := omega) only [gi_si_e, gi_si_n, gp_sp_e, gp_sp_n, gr_sr_e, gr_sr_n, gi_sp, gi_sr, gp_si, gp_sr, gr_si, gr_sp, upd_e, upd_n, un_e, un_n, an_sn_e, an_sn_n, an_sm, an_sv, am_sn, am_sm_e, am_sm_n, am_sv, ai_sn, ai_sm, ai_sv_e, ai_sv_n, reduceIte, or_false, false_or, or_true, true_or, or_self, and_true, true_and, and_false, false_and, not_true_eq_false, not_false_eq_true]; omega)
      refine ⟨σ', τ', a', ?_, ?_, e3⟩
      · unfold f_X9_append_L3
        rw [Vd_s, byte_c x (show j < 8 by omega), nz0, if_neg (V_nn (by omega)), nz8, if_neg (fun q => e (b1.mp q)), b2]
        simp (disch := omega) only [↓bnd_s, ↓bnd2_s, ↓bnd3_s, ↓bnd4_s, ↓bnd5_s, ↓bndR_l, ↓bndR_r, ↓bndX_l, ↓bndX_r, bnd_s, bnd2_s, bnd3_s, bnd4_s, bnd5_s, bndR_l, bndR_r, bndX_l, bndX_r, nq_lt, nq_le, nq_inj, nq_add, nq_mul, nq_sub, nq_div, nq_neg1, nq_clamp, nq_ne1, nq_le1, ne1_lt, n1_lt0, n1_lt, n1_ne, nz0, nz1, nz2, nz3, nz4, nz5, nz6, nz8, nz10, nz31, nz32, nz50, nz400, nz800, nz3200, nz20000, nlt_f, nlt_t, nle_f, nle_t, neq_f, neq_t, gi_si_e, gi_si_n, gp_sp_e, gp_sp_n, gr_sr_e, gr_sr_n, gi_sp, gi_sr, gp_si, gp_sr, gr_si, gr_sp, upd_e, upd_n, un_e, un_n, an_sn_e, an_sn_n, an_sm, an_sv, am_sn, am_sm_e, am_sm_n, am_sv, ai_sn, ai_sm, ai_sv_e, ai_sv_n, reduceIte, or_false, false_or, or_true, true_or, or_self, and_true, true_and, and_false, false_and, not_true_eq_false, not_false_eq_true, h.ct.1]
        exact e1
      · unfold f_X11_type_L64
        rw [Wd_s, nz8, nz0, nz1, nq_mul, byte_m x (show j < 8 by omega), b4, if_neg (W_nn (by omega)), if_neg (show ¬ nI (Bt x j) = nI 0 by rw [nq_inj (by omega) (by omega)]; exact e)]
        simp (disch := omega) only [↓bnd_s, ↓bnd2_s, ↓bnd3_s, ↓bnd4_s, ↓bnd5_s, ↓bndR_l, ↓bndR_r, ↓bndX_l, ↓bndX_r, bnd_s, bnd2_s, bnd3_s, bnd4_s, bnd5_s, bndR_l, bndR_r, bndX_l, bndX_r, nq_lt, nq_le, nq_inj, nq_add, nq_mul, nq_sub, nq_div, nq_neg1, nq_clamp, nq_ne1, nq_le1, ne1_lt, n1_lt0, n1_lt, n1_ne, nz0, nz1, nz2, nz3, nz4, nz5, nz6, nz8, nz10, nz31, nz32, nz50, nz400, nz800, nz3200, nz20000, nlt_f, nlt_t, nle_f, nle_t, neq_f, neq_t, gi_si_e, gi_si_n, gp_sp_e, gp_sp_n, gr_sr_e, gr_sr_n, gi_sp, gi_sr, gp_si, gp_sr, gr_si, gr_sp, upd_e, upd_n, un_e, un_n, an_sn_e, an_sn_n, an_sm, an_sv, am_sn, am_sm_e, am_sm_n, am_sv, ai_sn, ai_sm, ai_sv_e, ai_sv_n, reduceIte, or_false, false_or, or_true, true_or, or_self, and_true, true_and, and_false, false_and, not_true_eq_false, not_false_eq_true, h.mt.1]
        exact e2
theorem P_type (h : REL a σ τ) (x : Int64) : AG [zS] (f_X10_type x σ) (f_X11_type x τ) := by
  have hL := h.t
  have hc := cb_le x 8
  have hm := more_L x 8 (fu := FU) (k := 0) rfl (by omega) (by unfold FU; omega)
  rw [show cb x 0 = 0 from rfl] at hm
  by_cases e : an a 1 + cb x 8 ≤ 400
  · obtain ⟨σ', τ', a', e1, e2, e3⟩ := typed_L x 8 (fu := FU) (gu := FU) h (by omega) (by unfold FU; omega) (by unfold FU; omega) e
    rw [show Vd 8 = nI 56 from Vd_s 7] at e1
    rw [show Wd 8 = nI 7 from Wd_s 7] at e2
    refine AG.ok (nI (an a' 1)) ?_ ?_ e3
    · unfold f_X10_type f_X9_append
      rw [bytesIn_eq, bnd_s, show (56 : Int32) = nI 56 from rfl, e1]
      simp (disch := omega) only [↓bnd_s, ↓bnd2_s, ↓bnd3_s, ↓bnd4_s, ↓bnd5_s, ↓bndR_l, ↓bndR_r, ↓bndX_l, ↓bndX_r, bnd_s, bnd2_s, bnd3_s, bnd4_s, bnd5_s, bndR_l, bndR_r, bndX_l, bndX_r, nq_lt, nq_le, nq_inj, nq_add, nq_mul, nq_sub, nq_div, nq_neg1, nq_clamp, nq_ne1, nq_le1, ne1_lt, n1_lt0, n1_lt, n1_ne, nz0, nz1, nz2, nz3, nz4, nz5, nz6, nz8, nz10, nz31, nz32, nz50, nz400, nz800, nz3200, nz20000, nlt_f, nlt_t, nle_f, nle_t, neq_f, neq_t, gi_si_e, gi_si_n, gp_sp_e, gp_sp_n, gr_sr_e, gr_sr_n, gi_sp, gi_sr, gp_si, gp_sr, gr_si, gr_sp, upd_e, upd_n, un_e, un_n, an_sn_e, an_sn_n, an_sm, an_sv, am_sn, am_sm_e, am_sm_n, am_sv, ai_sn, ai_sm, ai_sv_e, ai_sv_n, reduceIte, or_false, false_or, or_true, true_or, or_self, and_true, true_and, and_false, false_and, not_true_eq_false, not_false_eq_true, h.ct.1, e3.ct.1]
    · unfold f_X11_type
      rw [nz0, hm, bnd_s, show (7 : Int32) = nI 7 from rfl, e2]
      simp (disch := omega) only [↓bnd_s, ↓bnd2_s, ↓bnd3_s, ↓bnd4_s, ↓bnd5_s, ↓bndR_l, ↓bndR_r, ↓bndX_l, ↓bndX_r, bnd_s, bnd2_s, bnd3_s, bnd4_s, bnd5_s, bndR_l, bndR_r, bndX_l, bndX_r, nq_lt, nq_le, nq_inj, nq_add, nq_mul, nq_sub, nq_div, nq_neg1, nq_clamp, nq_ne1, nq_le1, ne1_lt, n1_lt0, n1_lt, n1_ne, nz0, nz1, nz2, nz3, nz4, nz5, nz6, nz8, nz10, nz31, nz32, nz50, nz400, nz800, nz3200, nz20000, nlt_f, nlt_t, nle_f, nle_t, neq_f, neq_t, gi_si_e, gi_si_n, gp_sp_e, gp_sp_n, gr_sr_e, gr_sr_n, gi_sp, gi_sr, gp_si, gp_sr, gr_si, gr_sp, upd_e, upd_n, un_e, un_n, an_sn_e, an_sn_n, an_sm, an_sv, am_sn, am_sm_e, am_sm_n, am_sv, ai_sn, ai_sm, ai_sv_e, ai_sv_n, reduceIte, or_false, false_or, or_true, true_or, or_self, and_true, true_and, and_false, false_and, not_true_eq_false, not_false_eq_true, h.mt.1, e3.mt.1, told_eq]
  · refine AG.no (v := 0) 0 rfl ?_ ?_ h
    · unfold f_X10_type
      rw [bytesIn_eq, bnd_s]
      simp (disch := omega) only [↓bnd_s, ↓bnd2_s, ↓bnd3_s, ↓bnd4_s, ↓bnd5_s, ↓bndR_l, ↓bndR_r, ↓bndX_l, ↓bndX_r, bnd_s, bnd2_s, bnd3_s, bnd4_s, bnd5_s, bndR_l, bndR_r, bndX_l, bndX_r, nq_lt, nq_le, nq_inj, nq_add, nq_mul, nq_sub, nq_div, nq_neg1, nq_clamp, nq_ne1, nq_le1, ne1_lt, n1_lt0, n1_lt, n1_ne, nz0, nz1, nz2, nz3, nz4, nz5, nz6, nz8, nz10, nz31, nz32, nz50, nz400, nz800, nz3200, nz20000, nlt_f, nlt_t, nle_f, nle_t, neq_f, neq_t, gi_si_e, gi_si_n, gp_sp_e, gp_sp_n, gr_sr_e, gr_sr_n, gi_sp, gi_sr, gp_si, gp_sr, gr_si, gr_sp, upd_e, upd_n, un_e, un_n, an_sn_e, an_sn_n, an_sm, an_sv, am_sn, am_sm_e, am_sm_n, am_sv, ai_sn, ai_sm, ai_sv_e, ai_sv_n, reduceIte, or_false, false_or, or_true, true_or, or_self, and_true, true_and, and_false, false_and, not_true_eq_false, not_false_eq_true, h.ct.1]; rfl
    · unfold f_X11_type
      rw [nz0, hm, bnd_s]
      simp (disch := omega) only [↓bnd_s, ↓bnd2_s, ↓bnd3_s, ↓bnd4_s, ↓bnd5_s, ↓bndR_l, ↓bndR_r, ↓bndX_l, ↓bndX_r, bnd_s, bnd2_s, bnd3_s, bnd4_s, bnd5_s, bndR_l, bndR_r, bndX_l, bndX_r, nq_lt, nq_le, nq_inj, nq_add, nq_mul, nq_sub, nq_div, nq_neg1, nq_clamp, nq_ne1, nq_le1, ne1_lt, n1_lt0, n1_lt, n1_ne, nz0, nz1, nz2, nz3, nz4, nz5, nz6, nz8, nz10, nz31, nz32, nz50, nz400, nz800, nz3200, nz20000, nlt_f, nlt_t, nle_f, nle_t, neq_f, neq_t, gi_si_e, gi_si_n, gp_sp_e, gp_sp_n, gr_sr_e, gr_sr_n, gi_sp, gi_sr, gp_si, gp_sr, gr_si, gr_sp, upd_e, upd_n, un_e, un_n, an_sn_e, an_sn_n, an_sm, an_sv, am_sn, am_sm_e, am_sm_n, am_sv, ai_sn, ai_sm, ai_sv_e, ai_sv_n, reduceIte, or_false, false_or, or_true, true_or, or_self, and_true, true_and, and_false, false_and, not_true_eq_false, not_false_eq_true, h.mt.1, refuse_eq]
end O9
