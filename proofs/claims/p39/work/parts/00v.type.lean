/-! the text is typed, eight bytes at a time, in the class alone -/
def Bt (x : Int64) (k : Nat) : Nat := (x.toUInt64.toNat >>> (8 * k)) % 256
theorem Bt_lt (x : Int64) (k : Nat) : Bt x k < 256 := Nat.mod_lt _ (by decide)
theorem sh_nat {k : Nat} (hk : k < 8) : ((nI (8 * k)).toInt64.toUInt64 &&& Int64.toUInt64 63).toNat % 64 = 8 * k := by
  have : ∀ k : Nat, k < 8 → ((nI (8 * k)).toInt64.toUInt64 &&& Int64.toUInt64 63).toNat % 64 = 8 * k := by decide +kernel
  exact this k hk
theorem sh_eq (x : Int64) {k : Nat} (hk : k < 8) : (x.toUInt64 >>> ((nI (8 * k)).toInt64.toUInt64 &&& Int64.toUInt64 63)).toNat = x.toUInt64.toNat >>> (8 * k) := by
  rw [UInt64.toNat_shiftRight, sh_nat hk]
theorem byte_c0 (u : UInt64) : (u.toInt64.toInt32).toInt8 = (nI (u.toNat % 256)).toInt8 := by
  apply Int8.toBitVec_inj.mp
  apply BitVec.eq_of_toNat_eq
  show (BitVec.signExtend 8 (BitVec.signExtend 32 u.toBitVec)).toNat = (BitVec.signExtend 8 (BitVec.ofNat 32 (u.toNat % 256))).toNat
  rw [BitVec.signExtend_eq_setWidth_of_le _ (by decide), BitVec.signExtend_eq_setWidth_of_le _ (by decide), BitVec.signExtend_eq_setWidth_of_le _ (by decide), BitVec.toNat_setWidth, BitVec.toNat_setWidth, BitVec.toNat_setWidth, BitVec.toNat_ofNat]
  show u.toNat % 2 ^ 32 % 2 ^ 8 = u.toNat % 256 % 2 ^ 32 % 2 ^ 8
  omega
theorem byte_c (x : Int64) {k : Nat} (hk : k < 8) : (((x.toUInt64 >>> ((nI (8 * k)).toInt64.toUInt64 &&& Int64.toUInt64 63)).toInt64).toInt32).toInt8.toInt32 = (nI (Bt x k)).toInt8.toInt32 := by
  rw [byte_c0, sh_eq x hk]; rfl
theorem bt_all : ∀ B : Nat, B < 256 → ((nI B).toInt8.toInt32 = nI 0 ↔ B = 0) ∧ vp_nar .byte ((nI B).toInt8.toInt32) = (nI B).toInt8.toInt32 ∧ (lg_cmp (Int64.ofNat B) 0 = nI 0 ↔ B = 0) ∧ (Int64.ofNat B).toInt32 = nI B := by decide +kernel
def cb (x : Int64) : Nat → Nat
  | 0 => 0
  | k + 1 => cb x k + if Bt x k = 0 then 0 else 1
theorem cb_le (x : Int64) : ∀ k, cb x k ≤ k
  | 0 => Nat.le_refl _
  | k + 1 => by
    have := cb_le x k
    unfold cb
    split <;> omega
theorem cb_s (x : Int64) (k : Nat) : cb x (k + 1) = cb x k + if Bt x k = 0 then 0 else 1 := rfl
def Vd (j : Nat) : Int32 := nI (8 * j) + -nI 8
theorem Vd_0 : Vd 0 < nI 0 := by decide +kernel
theorem Vd_s (j : Nat) : Vd (j + 1) = nI (8 * j) := by
  unfold Vd
  rw [← Int32.sub_eq_add_neg, nq_sub (by omega), show 8 * (j + 1) - 8 = 8 * j by omega]
theorem V_nn {j : Nat} (hj : j < 100) : ¬ nI (8 * j) < nI 0 := by rw [nq_lt (by omega) (by omega)]; omega
theorem bytesIn_L (x : Int64) : ∀ (j : Nat) {fu c : Nat}, j ≤ 8 → j < fu → f_X9_bytesIn_L5 x fu (nI c) (Vd j) = some (nI (c + cb x j)) := by
  intro j
  induction j with
  | zero =>
    intro fu c hj hf
    obtain ⟨fu, rfl⟩ : ∃ f, fu = f + 1 := ⟨fu - 1, by omega⟩
    unfold f_X9_bytesIn_L5; rw [nz0, if_pos Vd_0]; rfl
  | succ j ih =>
    intro fu c hj hf
    obtain ⟨fu, rfl⟩ : ∃ f, fu = f + 1 := ⟨fu - 1, by omega⟩
    obtain ⟨b1, b2, b3, b4⟩ := bt_all (Bt x j) (Bt_lt x j)
    unfold f_X9_bytesIn_L5
    rw [Vd_s, byte_c x (show j < 8 by omega), nz0, nz1, cb_s, if_neg (V_nn (by omega)), nz8]
    by_cases e : Bt x j = 0
    · rw [if_pos (b1.mpr e), if_pos e, bnd_s, Nat.add_zero]
      exact ih (by omega) (by omega)
    · rw [if_neg (fun q => e (b1.mp q)), if_neg e, bnd_s, nq_add, Nat.add_comm (cb x j), ← Nat.add_assoc]
      exact ih (by omega) (by omega)
theorem bytesIn_eq (x : Int64) : f_X9_bytesIn x = some (nI (cb x 8)) := by
  unfold f_X9_bytesIn
  have := bytesIn_L x 8 (fu := FU) (c := 0) (by omega) (by unfold FU; omega)
  rw [show Vd 8 = nI 56 from Vd_s 7, Nat.zero_add] at this
  rw [nz0, show (56 : Int32) = nI 56 from rfl, this]; rfl
/-- bytes put into a long, as the law does -/
def pkC (C : List Nat) (b : Int64) : Int64 := C.foldl (fun b c => (b <<< ((8 : Int32).toInt64 &&& 63)) ||| (nI c).toInt64) b
def pnC (C : List Nat) (n : Nat) : Nat := C.foldl (fun b c => b * 256 + c) n
theorem i64_c : ∀ c : Nat, c < 256 → (nI c).toInt64.toBitVec.toNat = c := by decide +kernel
theorem sh8 (b : Int64) : (b <<< ((8 : Int32).toInt64 &&& 63)).toBitVec.toNat = b.toBitVec.toNat <<< 8 % 2 ^ 64 := by
  show (b.toBitVec <<< (((8 : Int32).toInt64 &&& 63).toBitVec.smod 64)).toNat = _
  rw [show ((8 : Int32).toInt64 &&& 63).toBitVec.smod 64 = 8#64 by decide +kernel, BitVec.shiftLeft_eq', BitVec.toNat_shiftLeft]
  rfl
theorem pk_st {b : Int64} {c : Nat} (hc : c < 256) (hb : b.toBitVec.toNat < 2 ^ 56) : ((b <<< ((8 : Int32).toInt64 &&& 63)) ||| (nI c).toInt64).toBitVec.toNat = b.toBitVec.toNat * 256 + c := by
  have h1 := sh8 b
  have h2 := i64_c c hc
  have h3 : b.toBitVec.toNat <<< 8 = b.toBitVec.toNat * 256 := Nat.shiftLeft_eq _ 8
  show ((b <<< ((8 : Int32).toInt64 &&& 63)).toBitVec ||| (nI c).toInt64.toBitVec).toNat = _
  rw [BitVec.toNat_or, h1, h2, Nat.mod_eq_of_lt (by rw [h3]; omega), ← Nat.shiftLeft_add_eq_or_of_lt (show c < 2 ^ 8 from hc), h3]
theorem pk_nat : ∀ (C : List Nat) (b : Int64) (k : Nat), (∀ x, x ∈ C → x < 256) → b.toBitVec.toNat < 256 ^ k → k + C.length ≤ 8 → (pkC C b).toBitVec.toNat = pnC C b.toBitVec.toNat
  | [], _, _, _, _, _ => rfl
  | c :: C, b, k, h, hb, hk => by
    rw [List.length_cons] at hk
    have hc := h c List.mem_cons_self
    have h7 : 256 ^ k ≤ 256 ^ 7 := Nat.pow_le_pow_right (by decide) (by omega)
    have h8 : (256 : Nat) ^ 7 = 2 ^ 56 := by decide
    have e := pk_st hc (show b.toBitVec.toNat < 2 ^ 56 by omega)
    have g := pk_nat C ((b <<< ((8 : Int32).toInt64 &&& 63)) ||| (nI c).toInt64) (k + 1) (fun x hx => h x (List.mem_cons_of_mem _ hx)) (by rw [e, Nat.pow_succ]; omega) (by omega)
    rw [e] at g
    exact g
def blN (N : Nat) : Nat → List Nat
  | 0 => []
  | j + 1 => (if (N >>> (8 * j)) % 256 = 0 then [] else [(N >>> (8 * j)) % 256]) ++ blN N j
theorem blN_s (N j : Nat) : blN N (j + 1) = (if (N >>> (8 * j)) % 256 = 0 then [] else [(N >>> (8 * j)) % 256]) ++ blN N j := rfl
theorem blN_0 : ∀ j, blN 0 j = []
  | 0 => rfl
  | j + 1 => by rw [blN_s, blN_0 j, Nat.zero_shiftRight]; rfl
theorem blN_lo (N : Nat) : ∀ j, blN N (j + 1) = blN (N / 256) j ++ if N % 256 = 0 then [] else [N % 256]
  | 0 => by
    rw [blN_s, Nat.mul_zero, Nat.shiftRight_zero]
    show _ ++ [] = [] ++ _
    rw [List.append_nil, List.nil_append]
  | j + 1 => by
    have e : N >>> (8 * (j + 1)) = (N / 256) >>> (8 * j) := by
      rw [Nat.shiftRight_eq_div_pow, Nat.shiftRight_eq_div_pow, Nat.div_div_eq_div_mul, show 8 * (j + 1) = 8 + 8 * j by omega, Nat.pow_add]
    rw [blN_s N (j + 1), blN_lo N j, e, blN_s (N / 256) j, List.append_assoc]
theorem bl_pn : ∀ (D : List Nat) (j : Nat), D.length ≤ j → (∀ x, x ∈ D → 1 ≤ x ∧ x < 256) → blN (pnC D.reverse 0) j = D.reverse
  | [], j, _, _ => blN_0 j
  | c :: D, 0, h, _ => by rw [List.length_cons] at h; omega
  | c :: D, j + 1, h, hx => by
    rw [List.length_cons] at h
    have hc := hx c List.mem_cons_self
    have g := bl_pn D j (by omega) fun x hx9 => hx x (List.mem_cons_of_mem _ hx9)
    have e : pnC (c :: D).reverse 0 = pnC D.reverse 0 * 256 + c := by
      rw [List.reverse_cons]
      unfold pnC
      rw [List.foldl_append]; rfl
    rw [e, blN_lo, show (pnC D.reverse 0 * 256 + c) / 256 = pnC D.reverse 0 by omega, show (pnC D.reverse 0 * 256 + c) % 256 = c by omega, g, if_neg (by omega), List.reverse_cons]
theorem bl_pk {C : List Nat} (h8 : C.length ≤ 8) (hx : ∀ x, x ∈ C → 1 ≤ x ∧ x < 256) : blN (pkC C 0).toUInt64.toNat 8 = C := by
  have e := pk_nat C 0 0 (fun x h => (hx x h).2) (by decide) (by omega)
  have g := bl_pn C.reverse 8 (by rw [List.length_reverse]; exact h8) fun x h => hx x (List.mem_reverse.mp h)
  rw [List.reverse_reverse] at g
  have e' : (pkC C 0).toUInt64.toNat = pnC C 0 := e
  rw [e', g]
theorem cb_bl (x : Int64) : ∀ j, cb x j = (blN x.toUInt64.toNat j).length
  | 0 => rfl
  | j + 1 => by
    rw [cb_s, cb_bl x j, blN_s, List.length_append]
    show _ + (if (x.toUInt64.toNat >>> (8 * j)) % 256 = 0 then 0 else 1) = _
    by_cases e : (x.toUInt64.toNat >>> (8 * j)) % 256 = 0
    · rw [if_pos e, if_pos e, List.length_nil]; omega
    · rw [if_neg e, if_neg e, List.length_singleton]; omega
theorem by_n : ∀ B : Nat, B < 128 → (nI B).toInt8.toInt32 = nI B := by decide +kernel
/-- what typing changes -/
def tY (σ σ' : St) : Prop := (∀ k, k ≠ 81 → gi σ' k = gi σ k) ∧ (∀ k, gp σ' k = gp σ k) ∧ ∀ j, j ≠ 11 → gr σ' j = gr σ j
theorem tY.refl (σ : St) : tY σ σ := ⟨fun _ _ => rfl, fun _ => rfl, fun _ _ => rfl⟩
theorem tY.trans {σ σ' σ2 : St} (h : tY σ σ') (h2 : tY σ' σ2) : tY σ σ2 := ⟨fun k a => (h2.1 k a).trans (h.1 k a), fun k => (h2.2.1 k).trans (h.2.1 k), fun j a => (h2.2.2 j a).trans (h.2.2 j a)⟩
section TY
variable {a : AS} {R : QR} {σ σ' : St}
theorem qIN.tY (h : qIN a R σ) (c : tY σ σ') : qIN a R σ' := by
  refine ⟨h.1, h.cd.fr (c.1 10 (by decide)) (c.2.2 2 (by decide)) (c.2.2 3 (by decide)), fun r hr => ?_, ?_, fun j h1 h2 => ?_, fun r hr hf => ?_⟩
  · obtain ⟨q1, q2, q3, q4⟩ := h.2.2.1 r hr
    exact ⟨q1, q2, by rw [c.1 _ (by omega)]; exact q3, by rw [c.2.2 _ (by omega)]; exact q4⟩
  · obtain ⟨m, m', s1, s2, s3⟩ := h.so
    exact ⟨m, m', (c.2.1 57).trans s1, (c.2.1 58).trans s2, s3⟩
  · rw [c.1 _ (by omega)]; exact h.2.2.2.2.1 j h1 h2
  · rw [c.2.2 _ (by decide)]; exact h.2.2.2.2.2 r hr hf
/-- a byte is typed -/
theorem TXc.push {T : List Nat} (h : TXc T σ) {B : Nat} (hB : 1 ≤ B) (hB2 : B < 128) (hL : T.length < 400) : TXc (T ++ [B]) (si (sr σ 11 (upd (gr σ 11) T.length (nI B))) 81 (nI (T.length + 1))) := by
  refine ⟨by rw [List.length_append, List.length_singleton]; omega, fun x hx => ?_, ?_, fun k x hk => ?_⟩
  · rcases List.mem_append.mp hx with hx | hx
    · exact h.2.1 x hx
    · rw [List.mem_singleton.mp hx]; exact ⟨hB, hB2⟩
  · rw [List.length_append, List.length_singleton]; exact gi_si_e _ _ rfl
  · rw [gr_si, gr_sr_e _ _ rfl]
    by_cases e : k < T.length
    · rw [List.getElem?_append_left e] at hk
      rw [upd_n _ _ (by omega)]; exact h.2.2.2 k x hk
    · rw [List.getElem?_append_right (by omega)] at hk
      have h9 := (List.getElem?_eq_some_iff.mp hk).1
      rw [List.length_singleton] at h9
      have e2 : k = T.length := by omega
      subst e2
      rw [Nat.sub_self] at hk
      rw [upd_e _ _ rfl]
      exact congrArg nI (Option.some.inj hk)
theorem typed_C (x : Int64) : ∀ (j : Nat) {fu : Nat} {T : List Nat} {σ : St}, TXc T σ → j ≤ 8 → j < fu → T.length + (blN x.toUInt64.toNat j).length ≤ 400 → (∀ y, y ∈ blN x.toUInt64.toNat j → y < 128) →
    ∃ σ' : St, f_X9_append_L3 x fu (Vd j) σ = some σ' ∧ TXc (T ++ blN x.toUInt64.toNat j) σ' ∧ tY σ σ' := by
  intro j
  induction j with
  | zero =>
    intro fu T σ h hj hf hL hy
    obtain ⟨fu, rfl⟩ : ∃ f, fu = f + 1 := ⟨fu - 1, by omega⟩
    refine ⟨σ, ?_, by show TXc (T ++ []) σ; rw [List.append_nil]; exact h, tY.refl σ⟩
    unfold f_X9_append_L3; rw [nz0, if_pos Vd_0]
  | succ j ih =>
    intro fu T σ h hj hf hL hy
    obtain ⟨fu, rfl⟩ : ∃ f, fu = f + 1 := ⟨fu - 1, by omega⟩
    obtain ⟨b1, b2, b3, b4⟩ := bt_all (Bt x j) (Bt_lt x j)
    have hB := Bt_lt x j
    rw [blN_s, show (x.toUInt64.toNat >>> (8 * j)) % 256 = Bt x j from rfl] at hL hy ⊢
    by_cases e : Bt x j = 0
    · rw [if_pos e, List.nil_append] at hL hy ⊢
      obtain ⟨σ', e1, e2, e3⟩ := ih (fu := fu) h (by omega) (by omega) hL hy
      refine ⟨σ', ?_, e2, e3⟩
      unfold f_X9_append_L3
      rw [Vd_s, byte_c x (show j < 8 by omega), nz0, if_neg (V_nn (by omega)), nz8, if_pos (b1.mpr e), bnd_s]
      exact e1
    · rw [if_neg e] at hL hy ⊢
      rw [List.length_append, List.length_singleton] at hL
      have hB2 := hy (Bt x j) (List.mem_append_left _ (List.mem_singleton.mpr rfl))
      have h' := h.push (B := Bt x j) (by omega) hB2 (by omega)
      have y1 : tY σ (si (sr σ 11 (upd (gr σ 11) T.length (nI (Bt x j)))) 81 (nI (T.length + 1))) := ⟨fun k hk => by rw [gi_si_n _ _ hk]; rfl, fun _ => rfl, fun i hi => by rw [gr_si, gr_sr_n _ _ hi]⟩
      obtain ⟨σ', e1, e2, e3⟩ := ih (fu := fu) h' (by omega) (by omega) (by rw [List.length_append, List.length_singleton]; omega) (fun y hy9 => hy y (List.mem_append_right _ hy9))
      rw [List.append_assoc] at e2
      refine ⟨σ', ?_, e2, y1.trans e3⟩
      have hl := h.l
      unfold f_X9_append_L3
      rw [Vd_s, byte_c x (show j < 8 by omega), nz0, if_neg (V_nn (by omega)), nz8, if_neg (fun q => e (b1.mp q)), b2, by_n _ hB2]
      simp (disch := omega) only [↓bnd_s, ↓bnd2_s, ↓bnd3_s, ↓bnd4_s, ↓bnd5_s, ↓bndR_l, ↓bndR_r, ↓bndX_l, ↓bndX_r, ↓bndQ_s, ↓bndQ2_s, bndQ_s, bndQ2_s, bnd_s, bnd2_s, bnd3_s, bnd4_s, bnd5_s, bndR_l, bndR_r, bndX_l, bndX_r, nq_lt, nq_le, nq_inj, nq_add, nq_mul, nq_sub, nq_div, nq_neg1, nq_clamp, nq_ne1, nq_le1, ne1_lt, n1_lt0, n1_lt, n1_ne, nz0, nz1, nz2, nz3, nz4, nz5, nz6, nz8, nz10, nz31, nz32, nz50, nz400, nz800, nz3200, nz20000, nlt_f, nlt_t, nle_f, nle_t, neq_f, neq_t, gi_si_e, gi_si_n, gp_sp_e, gp_sp_n, gr_sr_e, gr_sr_n, gi_sp, gi_sr, gp_si, gp_sr, gr_si, gr_sp, upd_e, upd_n, un_e, un_n, an_sn_e, an_sn_n, an_sm, an_sv, am_sn, am_sm_e, am_sm_n, am_sv, ai_sn, ai_sm, ai_sv_e, ai_sv_n, reduceIte, or_false, false_or, or_true, true_or, or_self, and_true, true_and, and_false, false_and, not_true_eq_false, not_false_eq_true, h.cL]
      exact e1
theorem E_type (h : qIN a R σ) {T C : List Nat} (hT : TXc T σ) (h8 : C.length ≤ 8) (hx : ∀ x, x ∈ C → 1 ≤ x ∧ x < 128) (hl : T.length + C.length ≤ 400) :
    ∃ σ', f_X10_type (pkC C 0) σ = some (.inr (nI (T.length + C.length)), σ') ∧ qIN a R σ' ∧ TXc (T ++ C) σ' := by
  have hb := bl_pk h8 fun x hx9 => ⟨(hx x hx9).1, by have := (hx x hx9).2; omega⟩
  obtain ⟨σ', e1, e2, e3⟩ := typed_C (pkC C 0) 8 (fu := FU) hT (by omega) (by unfold FU; omega) (by rw [hb]; exact hl) (fun y hy => by rw [hb] at hy; exact (hx y hy).2)
  rw [hb] at e2
  rw [show Vd 8 = nI 56 from Vd_s 7] at e1
  have hc : cb (pkC C 0) 8 = C.length := by rw [cb_bl, hb]
  have z := e2.cL
  rw [List.length_append] at z
  refine ⟨σ', ?_, h.tY e3, e2⟩
  unfold f_X10_type f_X9_append
  rw [bytesIn_eq, bnd_s, hc, show (56 : Int32) = nI 56 from rfl, e1]
  simp (disch := omega) only [↓bnd_s, ↓bnd2_s, ↓bnd3_s, ↓bnd4_s, ↓bnd5_s, ↓bndR_l, ↓bndR_r, ↓bndX_l, ↓bndX_r, ↓bndQ_s, ↓bndQ2_s, bndQ_s, bndQ2_s, bnd_s, bnd2_s, bnd3_s, bnd4_s, bnd5_s, bndR_l, bndR_r, bndX_l, bndX_r, nq_lt, nq_le, nq_inj, nq_add, nq_mul, nq_sub, nq_div, nq_neg1, nq_clamp, nq_ne1, nq_le1, ne1_lt, n1_lt0, n1_lt, n1_ne, nz0, nz1, nz2, nz3, nz4, nz5, nz6, nz8, nz10, nz31, nz32, nz50, nz400, nz800, nz3200, nz20000, nlt_f, nlt_t, nle_f, nle_t, neq_f, neq_t, gi_si_e, gi_si_n, gp_sp_e, gp_sp_n, gr_sr_e, gr_sr_n, gi_sp, gi_sr, gp_si, gp_sr, gr_si, gr_sp, upd_e, upd_n, un_e, un_n, an_sn_e, an_sn_n, an_sm, an_sv, am_sn, am_sm_e, am_sm_n, am_sv, ai_sn, ai_sm, ai_sv_e, ai_sv_n, reduceIte, or_false, false_or, or_true, true_or, or_self, and_true, true_and, and_false, false_and, not_true_eq_false, not_false_eq_true, hT.cL, z]
end TY
