/-! the table of the class: sorted by merging; laid on, laid back -/
def BI (key : Int32 → Int) (f : Nat → Int32) (w n : Nat) : Nat → Nat → Nat
  | 0, _ => 0
  | d + 1, i => if n ≤ i then 0 else invs key (seg f i (min w (n - i))) + BI key f w n d (i + w)
theorem BI_done (key : Int32 → Int) (f : Nat → Int32) (w n : Nat) : ∀ {d i : Nat}, n ≤ i → BI key f w n d i = 0
  | 0, _, _ => rfl
  | d + 1, i, h => by unfold BI; rw [if_pos h]
theorem BI_fuel {key : Int32 → Int} {f : Nat → Int32} {w n : Nat} (hw : 1 ≤ w) : ∀ {d e i : Nat}, n - i ≤ d → n - i ≤ e → BI key f w n d i = BI key f w n e i
  | 0, e, i, h1, _ => by rw [BI_done _ _ _ _ (show n ≤ i by omega), BI_done _ _ _ _ (show n ≤ i by omega)]
  | d + 1, 0, i, _, h2 => by rw [BI_done _ _ _ _ (show n ≤ i by omega), BI_done _ _ _ _ (show n ≤ i by omega)]
  | d + 1, e + 1, i, h1, h2 => by
    unfold BI
    by_cases h : n ≤ i
    · rw [if_pos h, if_pos h]
    · rw [if_neg h, if_neg h, BI_fuel hw (show n - (i + w) ≤ d by omega) (show n - (i + w) ≤ e by omega)]
theorem BI_one (key : Int32 → Int) (f : Nat → Int32) (n : Nat) : ∀ (d i : Nat), BI key f 1 n d i = 0
  | 0, _ => rfl
  | d + 1, i => by
    unfold BI
    by_cases h : n ≤ i
    · rw [if_pos h]
    · rw [if_neg h, BI_one key f n d (i + 1), show min 1 (n - i) = 1 by omega]
      rfl
def Blk (key : Int32 → Int) (f F : Nat → Int32) (w n i : Nat) : Prop := ∀ j k, k = i + j * w → k < n → SRT key (seg f k (min w (n - k))) (seg F k (min w (n - k)))
theorem SRT.nl {key : Int32 → Int} : SRT key [] [] := SRT.rfl1 (Nat.zero_le _)
theorem SRT.invs0 {key : Int32 → Int} : ∀ {l : List Int32}, sortedK key l → invs key l = 0
  | [], _ => rfl
  | a :: l, h => by
    obtain ⟨h1, h2⟩ := sortedK_cons.mp h
    rw [invs, SRT.invs0 h2]
    have h3 : cntL key a l = 0 := List.countP_eq_zero.mpr fun x hx => by
      have := h1 x hx
      simp only [decide_eq_true_eq]; omega
    omega
section AR
variable {a : AS}
theorem arr_in (hm : an a 0 ≤ 20000) {t : Nat} (ht : t < 4) {n w m m' : Nat} (hn : n ≤ 3200) (hw : 1 ≤ w) (hwn : w < n) (f0 : Nat → Int32) : ∀ (d : Nat) {fu i c : Nat} {σ : St}, CD a σ → SO σ m m' → gi σ 59 = nI n → (∀ q, q < n → ∃ j, j < an a 0 ∧ gr σ m q = nI j) → n - i ≤ d → i ≤ 10000 → d < fu → Blk (ky a t) f0 (gr σ m) w n i →
    ∃ (c' : Nat) (G : Nat → Int32), f_X8_arrange_L15 (oNo t) (nI w) fu (nI c) (nI i) σ = some (nI c', sr σ m' G) ∧ c' + BI (ky a t) f0 w n d i = c + BI (ky a t) f0 (2 * w) n d i ∧ Blk (ky a t) f0 G (2 * w) n i ∧ (∀ q, q < i → G q = gr σ m' q) ∧ (∀ q, i ≤ q → q < n → ∃ j, j < an a 0 ∧ G q = nI j) := by
  intro d
  induction d with
  | zero =>
    intro fu i c σ hC hS hg hv hd hi hf hB
    obtain ⟨fu, rfl⟩ : ∃ f, fu = f + 1 := ⟨fu - 1, by omega⟩
    refine ⟨c, gr σ m', ?_, rfl, fun j k e hk => absurd hk (by rw [e]; have := Nat.zero_le (j * (2 * w)); omega), fun _ _ => rfl, fun q h1 h2 => absurd h2 (by omega)⟩
    rw [sr_id]
    unfold f_X8_arrange_L15; simp (disch := omega) only [↓bnd_s, ↓bnd2_s, ↓bnd3_s, ↓bnd4_s, ↓bnd5_s, ↓bndR_l, ↓bndR_r, ↓bndX_l, ↓bndX_r, ↓bndQ_s, ↓bndQ2_s, bndQ_s, bndQ2_s, bnd_s, bnd2_s, bnd3_s, bnd4_s, bnd5_s, bndR_l, bndR_r, bndX_l, bndX_r, nq_lt, nq_le, nq_inj, nq_add, nq_mul, nq_sub, nq_div, nq_neg1, nq_clamp, nq_ne1, nq_le1, ne1_lt, n1_lt0, n1_lt, n1_ne, nz0, nz1, nz2, nz3, nz4, nz5, nz6, nz8, nz10, nz31, nz32, nz50, nz400, nz800, nz3200, nz20000, nlt_f, nlt_t, nle_f, nle_t, neq_f, neq_t, gi_si_e, gi_si_n, gp_sp_e, gp_sp_n, gr_sr_e, gr_sr_n, gi_sp, gi_sr, gp_si, gp_sr, gr_si, gr_sp, upd_e, upd_n, un_e, un_n, an_sn_e, an_sn_n, an_sm, an_sv, am_sn, am_sm_e, am_sm_n, am_sv, ai_sn, ai_sm, ai_sv_e, ai_sv_n, reduceIte, or_false, false_or, or_true, true_or, or_self, and_true, true_and, and_false, false_and, not_true_eq_false, not_false_eq_true, hg]
  | succ d ih =>
    intro fu i c σ hC hS hg hv hd hi hf hB
    obtain ⟨fu, rfl⟩ : ∃ f, fu = f + 1 := ⟨fu - 1, by omega⟩
    by_cases hin : n ≤ i
    · refine ⟨c, gr σ m', ?_, by rw [BI_done _ _ _ _ hin, BI_done _ _ _ _ hin], fun j k e hk => absurd hk (by rw [e]; have := Nat.zero_le (j * (2 * w)); omega), fun _ _ => rfl, fun q h1 h2 => absurd h2 (by omega)⟩
      rw [sr_id]
      unfold f_X8_arrange_L15; simp (disch := omega) only [↓bnd_s, ↓bnd2_s, ↓bnd3_s, ↓bnd4_s, ↓bnd5_s, ↓bndR_l, ↓bndR_r, ↓bndX_l, ↓bndX_r, ↓bndQ_s, ↓bndQ2_s, bndQ_s, bndQ2_s, bnd_s, bnd2_s, bnd3_s, bnd4_s, bnd5_s, bndR_l, bndR_r, bndX_l, bndX_r, nq_lt, nq_le, nq_inj, nq_add, nq_mul, nq_sub, nq_div, nq_neg1, nq_clamp, nq_ne1, nq_le1, ne1_lt, n1_lt0, n1_lt, n1_ne, nz0, nz1, nz2, nz3, nz4, nz5, nz6, nz8, nz10, nz31, nz32, nz50, nz400, nz800, nz3200, nz20000, nlt_f, nlt_t, nle_f, nle_t, neq_f, neq_t, gi_si_e, gi_si_n, gp_sp_e, gp_sp_n, gr_sr_e, gr_sr_n, gi_sp, gi_sr, gp_si, gp_sr, gr_si, gr_sp, upd_e, upd_n, un_e, un_n, an_sn_e, an_sn_n, an_sm, an_sv, am_sn, am_sm_e, am_sm_n, am_sv, ai_sn, ai_sm, ai_sv_e, ai_sv_n, reduceIte, or_false, false_or, or_true, true_or, or_self, and_true, true_and, and_false, false_and, not_true_eq_false, not_false_eq_true, hg]
    · obtain ⟨a1, ha1⟩ : ∃ z, z = min w (n - i) := ⟨_, rfl⟩
      obtain ⟨b1, hb1⟩ : ∃ z, z = min w (n - (i + a1)) := ⟨_, rfl⟩
      have e1 : (if nI n < nI i + nI w then nI n else nI i + nI w) = nI (i + a1) := by
        rw [nq_add]
        by_cases e : n < i + w
        · rw [if_pos (by rw [nq_lt (by omega) (by omega)]; exact e), show n = i + a1 by omega]
        · rw [if_neg (by rw [nq_lt (by omega) (by omega)]; exact e), show i + w = i + a1 by omega]
      have e2 : (if nI n < nI (i + a1) + nI w then nI n else nI (i + a1) + nI w) = nI (i + a1 + b1) := by
        rw [nq_add]
        by_cases e : n < i + a1 + w
        · rw [if_pos (by rw [nq_lt (by omega) (by omega)]; exact e), show n = i + a1 + b1 by omega]
        · rw [if_neg (by rw [nq_lt (by omega) (by omega)]; exact e), show i + a1 + w = i + a1 + b1 by omega]
      obtain ⟨l, hl⟩ : ∃ z, z = seg (gr σ m) i a1 := ⟨_, rfl⟩
      obtain ⟨r, hr⟩ : ∃ z, z = seg (gr σ m) (i + a1) b1 := ⟨_, rfl⟩
      obtain ⟨X, hX⟩ : ∃ z, z = wr (gr σ m') i (mrg (ky a t) l r) := ⟨_, rfl⟩
      have hmg := merge_eq hm ht (s := i) (mid := i + a1) (en := i + a1 + b1) (m := m) (m' := m') (σ := σ) (by omega) (by omega) (by omega) hC hS (fun q hq => hv q (by omega))
      rw [show i + a1 - i = a1 by omega, show i + a1 + b1 - (i + a1) = b1 by omega, ← hl, ← hr, ← hX] at hmg
      have hne := hS.ne
      have h89 := hS.2.2
      have eM : gr (sr σ m' X) m = gr σ m := gr_sr_n _ _ hne
      have hll : l.length = a1 := by rw [hl, seg_len]
      have hrl : r.length = b1 := by rw [hr, seg_len]
      obtain ⟨c', G, g1, g2, g3, g4, g5⟩ := ih (fu := fu) (i := i + 2 * w) (c := c + mrgW (ky a t) l r) (σ := sr σ m' X) (hC.fr rfl (by simp (disch := omega) only [gi_si_e, gi_si_n, gp_sp_e, gp_sp_n, gr_sr_e, gr_sr_n, gi_sp, gi_sr, gp_si, gp_sr, gr_si, gr_sp, upd_e, upd_n, un_e, un_n, an_sn_e, an_sn_n, an_sm, an_sv, am_sn, am_sm_e, am_sm_n, am_sv, ai_sn, ai_sm, ai_sv_e, ai_sv_n, reduceIte, or_false, false_or, or_true, true_or, or_self, and_true, true_and, and_false, false_and, not_true_eq_false, not_false_eq_true]) (by simp (disch := omega) only [gi_si_e, gi_si_n, gp_sp_e, gp_sp_n, gr_sr_e, gr_sr_n, gi_sp, gi_sr, gp_si, gp_sr, gr_si, gr_sp, upd_e, upd_n, un_e, un_n, an_sn_e, an_sn_n, an_sm, an_sv, am_sn, am_sm_e, am_sm_n, am_sv, ai_sn, ai_sm, ai_sv_e, ai_sv_n, reduceIte, or_false, false_or, or_true, true_or, or_self, and_true, true_and, and_false, false_and, not_true_eq_false, not_false_eq_true])) hS hg (by rw [eM]; exact hv) (by omega) (by omega) (by omega)
        (by rw [eM]; exact fun j k e hk => hB (j + 2) k (by rw [e, Nat.add_mul]; omega) hk)
      rw [sr_sr] at g1
      rw [gr_sr_e _ _ rfl] at g4
      have sl := hB 0 i (by omega) (by omega)
      rw [← ha1, ← hl] at sl
      have sr2 : SRT (ky a t) (seg f0 (i + a1) b1) r := by
        by_cases e : n ≤ i + a1
        · rw [show b1 = 0 by omega] at hr ⊢
          rw [hr]; exact SRT.nl
        · have := hB 1 (i + a1) (by omega) (by omega)
          rw [← hb1, ← hr] at this
          exact this
      have sm2 := sl.mrg sr2
      rw [← seg_app] at sm2
      have hml : (mrg (ky a t) l r).length = a1 + b1 := by rw [mrg_len, hll, hrl]
      have hsX : seg X i (a1 + b1) = mrg (ky a t) l r := by rw [hX, ← hml, seg_wr]
      have hsG : seg G i (a1 + b1) = mrg (ky a t) l r := by
        rw [← hsX]
        exact seg_congr fun k hk => g4 _ (by omega)
      refine ⟨c', G, ?_, ?_, ?_, fun q hq => ?_, fun q h1 h2 => ?_⟩
      · unfold f_X8_arrange_L15
        rw [hg, e1, e2, if_neg (by rw [nq_le (by omega) (by omega)]; omega), hmg, bnd2_s, nz2, nq_mul, nq_add, nq_add]
        exact g1
      · have hB1 : BI (ky a t) f0 w n (d + 1) i = invs (ky a t) (seg f0 i a1) + BI (ky a t) f0 w n d (i + w) := by
          rw [BI, if_neg hin, ← ha1]
        have hB2 : BI (ky a t) f0 (2 * w) n (d + 1) i = invs (ky a t) (seg f0 i (a1 + b1)) + BI (ky a t) f0 (2 * w) n d (i + 2 * w) := by
          rw [BI, if_neg hin, show min (2 * w) (n - i) = a1 + b1 by omega]
        have hB3 : BI (ky a t) f0 w n d (i + w) = invs (ky a t) (seg f0 (i + a1) b1) + BI (ky a t) f0 w n d (i + 2 * w) := by
          by_cases e : n ≤ i + a1
          · rw [show b1 = 0 by omega, BI_done _ _ _ _ (show n ≤ i + w by omega), BI_done _ _ _ _ (show n ≤ i + 2 * w by omega)]; rfl
          · rw [BI_fuel hw (e := d + 1) (by omega) (by omega), BI, if_neg (by omega), show i + w = i + a1 by omega, ← hb1, show i + a1 + w = i + 2 * w by omega]
        have hI := invs_app (ky a t) (seg f0 i a1) (seg f0 (i + a1) b1)
        rw [← seg_app] at hI
        have hW : mrgW (ky a t) l r = crs (ky a t) (seg f0 i a1) (seg f0 (i + a1) b1) := by
          rw [mrgW_eq _ l r (Nat.le_refl _) sl.1 sr2.1]
          exact crs_perm sl.2.2 sr2.2.2
        rw [hB1, hB2, hB3, hI, ← hW]
        omega
      · intro j k e hk
        match j, e with
        | 0, e =>
          rw [show k = i by omega, show min (2 * w) (n - i) = a1 + b1 by omega, hsG]
          exact sm2
        | j + 1, e => exact g3 j k (by rw [e, Nat.add_mul]; omega) hk
      · rw [g4 q (by omega), hX, wr_out _ (Or.inl hq)]
      · by_cases e : q < i + (a1 + b1)
        · have h3 := seg_get G (a1 + b1) i (q - i) (by omega)
          rw [hsG, show i + (q - i) = q by omega] at h3
          have h4 := mrg_mem.mp (List.mem_of_getElem? h3)
          rw [hl, hr] at h4
          rcases h4 with h4 | h4
          · obtain ⟨k, hk, e4⟩ := seg_mem h4
            rw [e4]; exact hv _ (by omega)
          · obtain ⟨k, hk, e4⟩ := seg_mem h4
            rw [e4]; exact hv _ (by omega)
        · exact g5 q (by omega) h2
theorem arr_fin {t : Nat} {n : Nat} (hn : n ≤ 3200) (f0 : Nat → Int32) {fu w c m m' : Nat} {σ : St} (hS : SO σ m m') (hg : gi σ 59 = nI n) (hnw : n ≤ w) (hw : 1 ≤ w) (hw2 : w ≤ 6400) (hB : Blk (ky a t) f0 (gr σ m) w n 0) (hc : c = BI (ky a t) f0 w n n 0) :
    ∃ (σ' : St) (M M' : Nat), f_X8_arrange_L4 (oNo t) (fu + 1) (nI c) (nI w) σ = some (nI (invs (ky a t) (seg f0 0 n)), σ') ∧ sF σ σ' ∧ SO σ' M M' ∧ SRT (ky a t) (seg f0 0 n) (seg (gr σ' M) 0 n) := by
  have h1 : c = invs (ky a t) (seg f0 0 n) ∧ SRT (ky a t) (seg f0 0 n) (seg (gr σ m) 0 n) := by
    match n, hc, hB, hnw with
    | 0, hc, _, _ => exact ⟨hc, SRT.nl⟩
    | n + 1, hc, hB, hnw =>
      have h2 := hB 0 0 (by omega) (by omega)
      rw [Nat.sub_zero, show min w (n + 1) = n + 1 by omega] at h2
      refine ⟨?_, h2⟩
      rw [hc, BI, if_neg (by omega), Nat.sub_zero, show min w (n + 1) = n + 1 by omega, BI_done _ _ _ _ (show n + 1 ≤ 0 + w by omega), Nat.add_zero]
  refine ⟨σ, m, m', ?_, sF.refl σ, hS, h1.2⟩
  rw [← h1.1]
  unfold f_X8_arrange_L4; simp (disch := omega) only [↓bnd_s, ↓bnd2_s, ↓bnd3_s, ↓bnd4_s, ↓bnd5_s, ↓bndR_l, ↓bndR_r, ↓bndX_l, ↓bndX_r, ↓bndQ_s, ↓bndQ2_s, bndQ_s, bndQ2_s, bnd_s, bnd2_s, bnd3_s, bnd4_s, bnd5_s, bndR_l, bndR_r, bndX_l, bndX_r, nq_lt, nq_le, nq_inj, nq_add, nq_mul, nq_sub, nq_div, nq_neg1, nq_clamp, nq_ne1, nq_le1, ne1_lt, n1_lt0, n1_lt, n1_ne, nz0, nz1, nz2, nz3, nz4, nz5, nz6, nz8, nz10, nz31, nz32, nz50, nz400, nz800, nz3200, nz20000, nlt_f, nlt_t, nle_f, nle_t, neq_f, neq_t, gi_si_e, gi_si_n, gp_sp_e, gp_sp_n, gr_sr_e, gr_sr_n, gi_sp, gi_sr, gp_si, gp_sr, gr_si, gr_sp, upd_e, upd_n, un_e, un_n, an_sn_e, an_sn_n, an_sm, an_sv, am_sn, am_sm_e, am_sm_n, am_sv, ai_sn, ai_sm, ai_sv_e, ai_sv_n, reduceIte, or_false, false_or, or_true, true_or, or_self, and_true, true_and, and_false, false_and, not_true_eq_false, not_false_eq_true, hg]
theorem arr_out (hm : an a 0 ≤ 20000) {t : Nat} (ht : t < 4) {n : Nat} (hn : n ≤ 3200) (f0 : Nat → Int32) : ∀ (d : Nat) {fu w c m m' : Nat} {σ : St}, CD a σ → SO σ m m' → gi σ 59 = nI n → (∀ q, q < n → ∃ j, j < an a 0 ∧ gr σ m q = nI j) → n - w ≤ d → 1 ≤ w → w ≤ 6400 → d < fu → Blk (ky a t) f0 (gr σ m) w n 0 → c = BI (ky a t) f0 w n n 0 →
    ∃ (σ' : St) (M M' : Nat), f_X8_arrange_L4 (oNo t) fu (nI c) (nI w) σ = some (nI (invs (ky a t) (seg f0 0 n)), σ') ∧ sF σ σ' ∧ SO σ' M M' ∧ SRT (ky a t) (seg f0 0 n) (seg (gr σ' M) 0 n) := by
  intro d
  induction d with
  | zero =>
    intro fu w c m m' σ hC hS hg hv hd hw hw2 hf hB hc
    obtain ⟨fu, rfl⟩ : ∃ f, fu = f + 1 := ⟨fu - 1, by omega⟩
    exact arr_fin hn f0 hS hg (by omega) hw hw2 hB hc
  | succ d ih =>
    intro fu w c m m' σ hC hS hg hv hd hw hw2 hf hB hc
    by_cases hnw : n ≤ w
    · obtain ⟨fu, rfl⟩ : ∃ f, fu = f + 1 := ⟨fu - 1, by omega⟩
      exact arr_fin hn f0 hS hg hnw hw hw2 hB hc
    · obtain ⟨fu, rfl⟩ : ∃ f, fu = f + 1 := ⟨fu - 1, by omega⟩
      obtain ⟨c', G, g1, g2, g3, g4, g5⟩ := arr_in hm ht hn hw (show w < n by omega) f0 n (fu := FU) (i := 0) (c := c) hC hS hg hv (by omega) (by omega) (by unfold FU; omega) hB
      have h89 := hS.2.2
      have hS2 : SO (sp (sp (sr σ m' G) 57 m') 58 m) m' m := ⟨by simp (disch := omega) only [gi_si_e, gi_si_n, gp_sp_e, gp_sp_n, gr_sr_e, gr_sr_n, gi_sp, gi_sr, gp_si, gp_sr, gr_si, gr_sp, upd_e, upd_n, un_e, un_n, an_sn_e, an_sn_n, an_sm, an_sv, am_sn, am_sm_e, am_sm_n, am_sv, ai_sn, ai_sm, ai_sv_e, ai_sv_n, reduceIte, or_false, false_or, or_true, true_or, or_self, and_true, true_and, and_false, false_and, not_true_eq_false, not_false_eq_true], by simp (disch := omega) only [gi_si_e, gi_si_n, gp_sp_e, gp_sp_n, gr_sr_e, gr_sr_n, gi_sp, gi_sr, gp_si, gp_sr, gr_si, gr_sp, upd_e, upd_n, un_e, un_n, an_sn_e, an_sn_n, an_sm, an_sv, am_sn, am_sm_e, am_sm_n, am_sv, ai_sn, ai_sm, ai_sv_e, ai_sv_n, reduceIte, or_false, false_or, or_true, true_or, or_self, and_true, true_and, and_false, false_and, not_true_eq_false, not_false_eq_true], by omega⟩
      obtain ⟨σ', M, M', k1, k2, k3, k4⟩ := ih (fu := fu) (w := w * 2) (c := c') (m := m') (m' := m) (σ := sp (sp (sr σ m' G) 57 m') 58 m) (hC.fr (by simp (disch := omega) only [gi_si_e, gi_si_n, gp_sp_e, gp_sp_n, gr_sr_e, gr_sr_n, gi_sp, gi_sr, gp_si, gp_sr, gr_si, gr_sp, upd_e, upd_n, un_e, un_n, an_sn_e, an_sn_n, an_sm, an_sv, am_sn, am_sm_e, am_sm_n, am_sv, ai_sn, ai_sm, ai_sv_e, ai_sv_n, reduceIte, or_false, false_or, or_true, true_or, or_self, and_true, true_and, and_false, false_and, not_true_eq_false, not_false_eq_true]) (by simp (disch := omega) only [gi_si_e, gi_si_n, gp_sp_e, gp_sp_n, gr_sr_e, gr_sr_n, gi_sp, gi_sr, gp_si, gp_sr, gr_si, gr_sp, upd_e, upd_n, un_e, un_n, an_sn_e, an_sn_n, an_sm, an_sv, am_sn, am_sm_e, am_sm_n, am_sv, ai_sn, ai_sm, ai_sv_e, ai_sv_n, reduceIte, or_false, false_or, or_true, true_or, or_self, and_true, true_and, and_false, false_and, not_true_eq_false, not_false_eq_true]) (by simp (disch := omega) only [gi_si_e, gi_si_n, gp_sp_e, gp_sp_n, gr_sr_e, gr_sr_n, gi_sp, gi_sr, gp_si, gp_sr, gr_si, gr_sp, upd_e, upd_n, un_e, un_n, an_sn_e, an_sn_n, an_sm, an_sv, am_sn, am_sm_e, am_sm_n, am_sv, ai_sn, ai_sm, ai_sv_e, ai_sv_n, reduceIte, or_false, false_or, or_true, true_or, or_self, and_true, true_and, and_false, false_and, not_true_eq_false, not_false_eq_true])) hS2 hg
        (by rw [gr_sp, gr_sp, gr_sr_e _ _ rfl]; exact fun q hq => g5 q (by omega) hq) (by omega) (by omega) (by omega) (by omega)
        (by rw [gr_sp, gr_sp, gr_sr_e _ _ rfl, Nat.mul_comm w 2]; exact g3) (by rw [Nat.mul_comm w 2]; omega)
      have hsf : sF σ (sp (sp (sr σ m' G) 57 m') 58 m) := ⟨fun k => rfl, fun k h1 h2 => by rw [gp_sp_n _ _ h2, gp_sp_n _ _ h1]; rfl, fun j h1 h2 => by simp (disch := omega) only [gi_si_e, gi_si_n, gp_sp_e, gp_sp_n, gr_sr_e, gr_sr_n, gi_sp, gi_sr, gp_si, gp_sr, gr_si, gr_sp, upd_e, upd_n, un_e, un_n, an_sn_e, an_sn_n, an_sm, an_sv, am_sn, am_sm_e, am_sm_n, am_sv, ai_sn, ai_sm, ai_sv_e, ai_sv_n, reduceIte, or_false, false_or, or_true, true_or, or_self, and_true, true_and, and_false, false_and, not_true_eq_false, not_false_eq_true]⟩
      refine ⟨σ', M, M', ?_, hsf.trans k2, k3, k4⟩
      unfold f_X8_arrange_L4
      rw [hg, if_neg (by rw [nq_le (by omega) (by omega)]; omega), nz0, g1, bnd2_s]
      simp (disch := omega) only [↓bnd_s, ↓bnd2_s, ↓bnd3_s, ↓bnd4_s, ↓bnd5_s, ↓bndR_l, ↓bndR_r, ↓bndX_l, ↓bndX_r, ↓bndQ_s, ↓bndQ2_s, bndQ_s, bndQ2_s, bnd_s, bnd2_s, bnd3_s, bnd4_s, bnd5_s, bndR_l, bndR_r, bndX_l, bndX_r, nq_lt, nq_le, nq_inj, nq_add, nq_mul, nq_sub, nq_div, nq_neg1, nq_clamp, nq_ne1, nq_le1, ne1_lt, n1_lt0, n1_lt, n1_ne, nz0, nz1, nz2, nz3, nz4, nz5, nz6, nz8, nz10, nz31, nz32, nz50, nz400, nz800, nz3200, nz20000, nlt_f, nlt_t, nle_f, nle_t, neq_f, neq_t, gi_si_e, gi_si_n, gp_sp_e, gp_sp_n, gr_sr_e, gr_sr_n, gi_sp, gi_sr, gp_si, gp_sr, gr_si, gr_sp, upd_e, upd_n, un_e, un_n, an_sn_e, an_sn_n, an_sm, an_sv, am_sn, am_sm_e, am_sm_n, am_sv, ai_sn, ai_sm, ai_sv_e, ai_sv_n, reduceIte, or_false, false_or, or_true, true_or, or_self, and_true, true_and, and_false, false_and, not_true_eq_false, not_false_eq_true, gp_sr, hS.1, hS.2.1, hS.m, hS.m']
      exact k1
theorem arrange_eq (hm : an a 0 ≤ 20000) {t : Nat} (ht : t < 4) {n m m' : Nat} {σ : St} (hn : n ≤ 3200) (hC : CD a σ) (hS : SO σ m m') (hg : gi σ 59 = nI n) (hv : ∀ q, q < n → ∃ j, j < an a 0 ∧ gr σ m q = nI j) :
    ∃ (σ' : St) (M M' : Nat), f_X8_arrange (oNo t) σ = some (nI (invs (ky a t) (seg (gr σ m) 0 n)), σ') ∧ sF σ σ' ∧ SO σ' M M' ∧ seg (gr σ' M) 0 n = isrt (ky a t) (seg (gr σ m) 0 n) := by
  obtain ⟨σ', M, M', k1, k2, k3, k4⟩ := arr_out hm ht hn (gr σ m) n (fu := FU) (w := 1) (c := 0) hC hS hg hv (by omega) (by omega) (by omega) (by unfold FU; omega) (fun j k _ hk => by rw [show min 1 (n - k) = 1 by omega]; exact SRT.rfl1 (by rw [seg_len]; omega)) (BI_one _ _ _ _ _).symm
  refine ⟨σ', M, M', ?_, k2, k3, k4.is⟩
  unfold f_X8_arrange
  rw [nz0, nz1, k1]; rfl
end AR
