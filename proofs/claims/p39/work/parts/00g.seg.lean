/-! parts of arrays as lists; keys of marks -/
def seg (f : Nat → Int32) : Nat → Nat → List Int32
  | _, 0 => []
  | i, n + 1 => f i :: seg f (i + 1) n
theorem seg_0 (f : Nat → Int32) (i : Nat) : seg f i 0 = [] := rfl
theorem seg_s (f : Nat → Int32) (i n : Nat) : seg f i (n + 1) = f i :: seg f (i + 1) n := rfl
theorem seg_len (f : Nat → Int32) : ∀ (n i : Nat), (seg f i n).length = n
  | 0, _ => rfl
  | n + 1, i => by rw [seg_s, List.length_cons, seg_len f n]
theorem seg_app (f : Nat → Int32) : ∀ (m n i : Nat), seg f i (m + n) = seg f i m ++ seg f (i + m) n
  | 0, n, i => by rw [Nat.zero_add, seg_0, List.nil_append, Nat.add_zero]
  | m + 1, n, i => by rw [show m + 1 + n = m + n + 1 by omega, seg_s, seg_s, seg_app f m n (i + 1), List.cons_append, show i + 1 + m = i + (m + 1) by omega]
theorem seg_snoc (f : Nat → Int32) (n i : Nat) : seg f i (n + 1) = seg f i n ++ [f (i + n)] := seg_app f n 1 i
theorem seg_get (f : Nat → Int32) : ∀ (n i k : Nat), k < n → (seg f i n)[k]? = some (f (i + k))
  | 0, _, _, h => absurd h (Nat.not_lt_zero _)
  | n + 1, i, 0, _ => by rw [seg_s]; rfl
  | n + 1, i, k + 1, h => by rw [seg_s, List.getElem?_cons_succ, seg_get f n (i + 1) k (by omega), show i + 1 + k = i + (k + 1) by omega]
theorem seg_congr {f g : Nat → Int32} : ∀ {n i j : Nat}, (∀ k, k < n → f (i + k) = g (j + k)) → seg f i n = seg g j n
  | 0, _, _, _ => rfl
  | n + 1, i, j, h => by
    rw [seg_s, seg_s, seg_congr (n := n) (i := i + 1) (j := j + 1) (f := f) (g := g) fun k hk => by
      have := h (k + 1) (by omega)
      rw [show i + 1 + k = i + (k + 1) by omega, show j + 1 + k = j + (k + 1) by omega]; exact this]
    have := h 0 (by omega)
    rw [Nat.add_zero, Nat.add_zero] at this
    rw [this]
theorem seg_mem {f : Nat → Int32} : ∀ {n i : Nat} {x : Int32}, x ∈ seg f i n → ∃ k, k < n ∧ x = f (i + k)
  | 0, _, _, h => by cases h
  | n + 1, i, x, h => by
    rw [seg_s] at h
    rcases List.mem_cons.mp h with rfl | h
    · exact ⟨0, by omega, rfl⟩
    · obtain ⟨k, hk, e⟩ := seg_mem h
      exact ⟨k + 1, by omega, by rw [e, show i + 1 + k = i + (k + 1) by omega]⟩
/-- a list is written from p on -/
def wr (g : Nat → Int32) (p : Nat) (l : List Int32) : Nat → Int32 := fun q => if p ≤ q then (l[q - p]?).getD (g q) else g q
theorem wr_nil (g : Nat → Int32) (p : Nat) : wr g p [] = g := by
  funext q
  unfold wr
  split <;> simp
theorem wr_cons (g : Nat → Int32) (p : Nat) (x : Int32) (l : List Int32) : wr (upd g p x) (p + 1) l = wr g p (x :: l) := by
  funext q
  unfold wr
  by_cases h : q = p
  · subst h
    rw [if_neg (by omega), if_pos (Nat.le_refl _), upd_e _ _ rfl, Nat.sub_self]; rfl
  · by_cases h2 : p ≤ q
    · rw [if_pos (by omega), if_pos h2, show q - p = q - (p + 1) + 1 by omega, List.getElem?_cons_succ, upd_n _ _ h]
    · rw [if_neg (by omega), if_neg h2, upd_n _ _ h]
theorem wr_out (g : Nat → Int32) {p q : Nat} {l : List Int32} (h : q < p ∨ p + l.length ≤ q) : wr g p l q = g q := by
  unfold wr
  by_cases h2 : p ≤ q
  · rw [if_pos h2, List.getElem?_eq_none (by omega)]; rfl
  · rw [if_neg h2]
theorem wr_in (g : Nat → Int32) {p q : Nat} {l : List Int32} (h1 : p ≤ q) {x : Int32} (h : l[q - p]? = some x) : wr g p l q = x := by
  unfold wr
  rw [if_pos h1, h]; rfl
theorem seg_wr : ∀ (l : List Int32) (g : Nat → Int32) (p : Nat), seg (wr g p l) p l.length = l := by
  intro l
  induction l with
  | nil => intro g p; rfl
  | cons x l ih =>
    intro g p
    rw [List.length_cons, seg_s, wr_in (x := x) _ (Nat.le_refl _) (by rw [Nat.sub_self]; rfl), ← wr_cons, ih]
theorem wr_seg {g F : Nat → Int32} {p n : Nat} {l : List Int32} (hl : l.length = n) (h1 : ∀ q, q < p ∨ p + n ≤ q → F q = g q) (h2 : seg F p n = l) : F = wr g p l := by
  funext q
  by_cases h : q < p ∨ p + n ≤ q
  · rw [wr_out _ (by omega), h1 q h]
  · have := seg_get F n p (q - p) (by omega)
    rw [h2, show p + (q - p) = q by omega] at this
    exact (wr_in _ (by omega) this).symm
theorem insK_split {key : Int32 → Int} {x : Int32} : ∀ (l : List Int32) (p : Nat), p ≤ l.length → (∀ q y, q < p → l[q]? = some y → ¬ key x < key y) → (∀ y, l[p]? = some y → key x < key y) → insK key x l = l.take p ++ x :: l.drop p
  | [], p, hp, _, _ => by
    have : p = 0 := by simpa using hp
    subst this; rfl
  | a :: l, 0, _, _, h2 => by
    unfold insK
    rw [if_pos (h2 a rfl)]; rfl
  | a :: l, p + 1, hp, h1, h2 => by
    unfold insK
    rw [if_neg (h1 0 a (by omega) rfl), insK_split l p (by simpa using hp) (fun q y hq hy => h1 (q + 1) y (by omega) (by rw [List.getElem?_cons_succ]; exact hy)) (fun y hy => h2 y (by rw [List.getElem?_cons_succ]; exact hy))]
    rfl
/-- the key of a mark: by 0 first, 1 first from the greatest on, 2 second, 3 both -/
def ky (a : AS) (t : Nat) (x : Int32) : Int :=
  if t = 0 then (ai a 0 x.toNatClampNeg).toInt else if t = 1 then -(ai a 0 x.toNatClampNeg).toInt else if t = 2 then (ai a 1 x.toNatClampNeg).toInt else (ai a 0 x.toNatClampNeg).toInt * 4294967296 + (ai a 1 x.toNatClampNeg).toInt
/-- the class's order for the reference's number -/
def oNo (t : Nat) : Nat := if t = 0 then 0 else if t = 1 then 3 else if t = 2 then 1 else 2
theorem both_lt (x y u v : Int32) : (x.toInt * 4294967296 + u.toInt < y.toInt * 4294967296 + v.toInt) ↔ (x < y ∨ (x = y ∧ u < v)) := by
  have h1 := Int32.le_toInt u
  have h2 := Int32.toInt_lt u
  have h3 := Int32.le_toInt v
  have h4 := Int32.toInt_lt v
  rw [Int32.lt_iff_toInt_lt, Int32.lt_iff_toInt_lt, ← Int32.toInt_inj]
  omega
section KY
variable {a : AS} {σ : St}
theorem CD.first (h : CD a σ) (hm : an a 0 ≤ 20000) {i : Nat} (hi : i < an a 0) : f_X1_firstOf (nI i) σ = some (ai a 0 i) := by
  unfold f_X1_firstOf
  simp (disch := omega) only [↓bnd_s, ↓bnd2_s, ↓bnd3_s, ↓bnd4_s, ↓bnd5_s, ↓bndR_l, ↓bndR_r, ↓bndX_l, ↓bndX_r, ↓bndQ_s, ↓bndQ2_s, bndQ_s, bndQ2_s, bnd_s, bnd2_s, bnd3_s, bnd4_s, bnd5_s, bndR_l, bndR_r, bndX_l, bndX_r, nq_lt, nq_le, nq_inj, nq_add, nq_mul, nq_sub, nq_div, nq_neg1, nq_clamp, nq_ne1, nq_le1, ne1_lt, n1_lt0, n1_lt, n1_ne, nz0, nz1, nz2, nz3, nz4, nz5, nz6, nz8, nz10, nz31, nz32, nz50, nz400, nz800, nz3200, nz20000, nlt_f, nlt_t, nle_f, nle_t, neq_f, neq_t, gi_si_e, gi_si_n, gp_sp_e, gp_sp_n, gr_sr_e, gr_sr_n, gi_sp, gi_sr, gp_si, gp_sr, gr_si, gr_sp, upd_e, upd_n, un_e, un_n, an_sn_e, an_sn_n, an_sm, an_sv, am_sn, am_sm_e, am_sm_n, am_sv, ai_sn, ai_sm, ai_sv_e, ai_sv_n, reduceIte, or_false, false_or, or_true, true_or, or_self, and_true, true_and, and_false, false_and, not_true_eq_false, not_false_eq_true, h.1, h.2.1 i hi]
theorem CD.second (h : CD a σ) (hm : an a 0 ≤ 20000) {i : Nat} (hi : i < an a 0) : f_X1_secondOf (nI i) σ = some (ai a 1 i) := by
  unfold f_X1_secondOf
  simp (disch := omega) only [↓bnd_s, ↓bnd2_s, ↓bnd3_s, ↓bnd4_s, ↓bnd5_s, ↓bndR_l, ↓bndR_r, ↓bndX_l, ↓bndX_r, ↓bndQ_s, ↓bndQ2_s, bndQ_s, bndQ2_s, bnd_s, bnd2_s, bnd3_s, bnd4_s, bnd5_s, bndR_l, bndR_r, bndX_l, bndX_r, nq_lt, nq_le, nq_inj, nq_add, nq_mul, nq_sub, nq_div, nq_neg1, nq_clamp, nq_ne1, nq_le1, ne1_lt, n1_lt0, n1_lt, n1_ne, nz0, nz1, nz2, nz3, nz4, nz5, nz6, nz8, nz10, nz31, nz32, nz50, nz400, nz800, nz3200, nz20000, nlt_f, nlt_t, nle_f, nle_t, neq_f, neq_t, gi_si_e, gi_si_n, gp_sp_e, gp_sp_n, gr_sr_e, gr_sr_n, gi_sp, gi_sr, gp_si, gp_sr, gr_si, gr_sp, upd_e, upd_n, un_e, un_n, an_sn_e, an_sn_n, an_sm, an_sv, am_sn, am_sm_e, am_sm_n, am_sv, ai_sn, ai_sm, ai_sv_e, ai_sv_n, reduceIte, or_false, false_or, or_true, true_or, or_self, and_true, true_and, and_false, false_and, not_true_eq_false, not_false_eq_true, h.1, h.2.2 i hi]
theorem ky_lt (hm : an a 0 ≤ 20000) {t i j : Nat} (hi : i < an a 0) (hj : j < an a 0) : ky a t (nI i) < ky a t (nI j) ↔
    (if t = 0 then ai a 0 i < ai a 0 j else if t = 1 then ai a 0 j < ai a 0 i else if t = 2 then ai a 1 i < ai a 1 j else (ai a 0 i < ai a 0 j ∨ (ai a 0 i = ai a 0 j ∧ ai a 1 i < ai a 1 j))) := by
  unfold ky
  rw [nq_clamp (by omega), nq_clamp (by omega)]
  by_cases t0 : t = 0
  · simp only [if_pos t0]; exact Int32.lt_iff_toInt_lt.symm
  · by_cases t1 : t = 1
    · simp only [if_neg t0, if_pos t1]; rw [Int32.lt_iff_toInt_lt]; omega
    · by_cases t2 : t = 2
      · simp only [if_neg t0, if_neg t1, if_pos t2]; exact Int32.lt_iff_toInt_lt.symm
      · simp only [if_neg t0, if_neg t1, if_neg t2]; exact both_lt _ _ _ _
theorem wrong_eq (h : CD a σ) (hm : an a 0 ≤ 20000) {t i j : Nat} (ht : t < 4) (hi : i < an a 0) (hj : j < an a 0) : f_X8_isWrongPair (nI i) (nI j) (oNo t) σ = some (if ky a t (nI j) < ky a t (nI i) then nI 1 else nI 0) := by
  have k := ky_lt (t := t) hm hj hi
  unfold f_X8_isWrongPair
  match t, ht, k with
  | 0, _, k =>
    simp only [if_true] at k
    rw [show oOrd (oNo 0) = nI 0 from rfl]
    by_cases e : ai a 0 j < ai a 0 i
    · rw [if_pos (k.mpr e)]
      simp (disch := omega) only [↓bnd_s, ↓bnd2_s, ↓bnd3_s, ↓bnd4_s, ↓bnd5_s, ↓bndR_l, ↓bndR_r, ↓bndX_l, ↓bndX_r, ↓bndQ_s, ↓bndQ2_s, bndQ_s, bndQ2_s, bnd_s, bnd2_s, bnd3_s, bnd4_s, bnd5_s, bndR_l, bndR_r, bndX_l, bndX_r, nq_lt, nq_le, nq_inj, nq_add, nq_mul, nq_sub, nq_div, nq_neg1, nq_clamp, nq_ne1, nq_le1, ne1_lt, n1_lt0, n1_lt, n1_ne, nz0, nz1, nz2, nz3, nz4, nz5, nz6, nz8, nz10, nz31, nz32, nz50, nz400, nz800, nz3200, nz20000, nlt_f, nlt_t, nle_f, nle_t, neq_f, neq_t, gi_si_e, gi_si_n, gp_sp_e, gp_sp_n, gr_sr_e, gr_sr_n, gi_sp, gi_sr, gp_si, gp_sr, gr_si, gr_sp, upd_e, upd_n, un_e, un_n, an_sn_e, an_sn_n, an_sm, an_sv, am_sn, am_sm_e, am_sm_n, am_sv, ai_sn, ai_sm, ai_sv_e, ai_sv_n, reduceIte, or_false, false_or, or_true, true_or, or_self, and_true, true_and, and_false, false_and, not_true_eq_false, not_false_eq_true, h.first hm hi, h.first hm hj, show zSwO.getD 0 (nI 0) = nI 0 from rfl, Int32.not_le.mpr e]
    · rw [if_neg (fun q => e (k.mp q))]
      simp (disch := omega) only [↓bnd_s, ↓bnd2_s, ↓bnd3_s, ↓bnd4_s, ↓bnd5_s, ↓bndR_l, ↓bndR_r, ↓bndX_l, ↓bndX_r, ↓bndQ_s, ↓bndQ2_s, bndQ_s, bndQ2_s, bnd_s, bnd2_s, bnd3_s, bnd4_s, bnd5_s, bndR_l, bndR_r, bndX_l, bndX_r, nq_lt, nq_le, nq_inj, nq_add, nq_mul, nq_sub, nq_div, nq_neg1, nq_clamp, nq_ne1, nq_le1, ne1_lt, n1_lt0, n1_lt, n1_ne, nz0, nz1, nz2, nz3, nz4, nz5, nz6, nz8, nz10, nz31, nz32, nz50, nz400, nz800, nz3200, nz20000, nlt_f, nlt_t, nle_f, nle_t, neq_f, neq_t, gi_si_e, gi_si_n, gp_sp_e, gp_sp_n, gr_sr_e, gr_sr_n, gi_sp, gi_sr, gp_si, gp_sr, gr_si, gr_sp, upd_e, upd_n, un_e, un_n, an_sn_e, an_sn_n, an_sm, an_sv, am_sn, am_sm_e, am_sm_n, am_sv, ai_sn, ai_sm, ai_sv_e, ai_sv_n, reduceIte, or_false, false_or, or_true, true_or, or_self, and_true, true_and, and_false, false_and, not_true_eq_false, not_false_eq_true, h.first hm hi, h.first hm hj, show zSwO.getD 0 (nI 0) = nI 0 from rfl, Int32.not_lt.mp e]
  | 1, _, k =>
    simp only [if_true, show ¬ (1 : Nat) = 0 by decide, if_false] at k
    rw [show oOrd (oNo 1) = nI 3 from rfl]
    by_cases e : ai a 0 i < ai a 0 j
    · rw [if_pos (k.mpr e)]
      simp (disch := omega) only [↓bnd_s, ↓bnd2_s, ↓bnd3_s, ↓bnd4_s, ↓bnd5_s, ↓bndR_l, ↓bndR_r, ↓bndX_l, ↓bndX_r, ↓bndQ_s, ↓bndQ2_s, bndQ_s, bndQ2_s, bnd_s, bnd2_s, bnd3_s, bnd4_s, bnd5_s, bndR_l, bndR_r, bndX_l, bndX_r, nq_lt, nq_le, nq_inj, nq_add, nq_mul, nq_sub, nq_div, nq_neg1, nq_clamp, nq_ne1, nq_le1, ne1_lt, n1_lt0, n1_lt, n1_ne, nz0, nz1, nz2, nz3, nz4, nz5, nz6, nz8, nz10, nz31, nz32, nz50, nz400, nz800, nz3200, nz20000, nlt_f, nlt_t, nle_f, nle_t, neq_f, neq_t, gi_si_e, gi_si_n, gp_sp_e, gp_sp_n, gr_sr_e, gr_sr_n, gi_sp, gi_sr, gp_si, gp_sr, gr_si, gr_sp, upd_e, upd_n, un_e, un_n, an_sn_e, an_sn_n, an_sm, an_sv, am_sn, am_sm_e, am_sm_n, am_sv, ai_sn, ai_sm, ai_sv_e, ai_sv_n, reduceIte, or_false, false_or, or_true, true_or, or_self, and_true, true_and, and_false, false_and, not_true_eq_false, not_false_eq_true, h.first hm hi, h.first hm hj, show zSwO.getD 3 (nI 0) = nI 3 from rfl, Int32.not_le.mpr e]
    · rw [if_neg (fun q => e (k.mp q))]
      simp (disch := omega) only [↓bnd_s, ↓bnd2_s, ↓bnd3_s, ↓bnd4_s, ↓bnd5_s, ↓bndR_l, ↓bndR_r, ↓bndX_l, ↓bndX_r, ↓bndQ_s, ↓bndQ2_s, bndQ_s, bndQ2_s, bnd_s, bnd2_s, bnd3_s, bnd4_s, bnd5_s, bndR_l, bndR_r, bndX_l, bndX_r, nq_lt, nq_le, nq_inj, nq_add, nq_mul, nq_sub, nq_div, nq_neg1, nq_clamp, nq_ne1, nq_le1, ne1_lt, n1_lt0, n1_lt, n1_ne, nz0, nz1, nz2, nz3, nz4, nz5, nz6, nz8, nz10, nz31, nz32, nz50, nz400, nz800, nz3200, nz20000, nlt_f, nlt_t, nle_f, nle_t, neq_f, neq_t, gi_si_e, gi_si_n, gp_sp_e, gp_sp_n, gr_sr_e, gr_sr_n, gi_sp, gi_sr, gp_si, gp_sr, gr_si, gr_sp, upd_e, upd_n, un_e, un_n, an_sn_e, an_sn_n, an_sm, an_sv, am_sn, am_sm_e, am_sm_n, am_sv, ai_sn, ai_sm, ai_sv_e, ai_sv_n, reduceIte, or_false, false_or, or_true, true_or, or_self, and_true, true_and, and_false, false_and, not_true_eq_false, not_false_eq_true, h.first hm hi, h.first hm hj, show zSwO.getD 3 (nI 0) = nI 3 from rfl, Int32.not_lt.mp e]
  | 2, _, k =>
    simp only [if_true, show ¬ (2 : Nat) = 0 by decide, show ¬ (2 : Nat) = 1 by decide, if_false] at k
    rw [show oOrd (oNo 2) = nI 1 from rfl]
    by_cases e : ai a 1 j < ai a 1 i
    · rw [if_pos (k.mpr e)]
      simp (disch := omega) only [↓bnd_s, ↓bnd2_s, ↓bnd3_s, ↓bnd4_s, ↓bnd5_s, ↓bndR_l, ↓bndR_r, ↓bndX_l, ↓bndX_r, ↓bndQ_s, ↓bndQ2_s, bndQ_s, bndQ2_s, bnd_s, bnd2_s, bnd3_s, bnd4_s, bnd5_s, bndR_l, bndR_r, bndX_l, bndX_r, nq_lt, nq_le, nq_inj, nq_add, nq_mul, nq_sub, nq_div, nq_neg1, nq_clamp, nq_ne1, nq_le1, ne1_lt, n1_lt0, n1_lt, n1_ne, nz0, nz1, nz2, nz3, nz4, nz5, nz6, nz8, nz10, nz31, nz32, nz50, nz400, nz800, nz3200, nz20000, nlt_f, nlt_t, nle_f, nle_t, neq_f, neq_t, gi_si_e, gi_si_n, gp_sp_e, gp_sp_n, gr_sr_e, gr_sr_n, gi_sp, gi_sr, gp_si, gp_sr, gr_si, gr_sp, upd_e, upd_n, un_e, un_n, an_sn_e, an_sn_n, an_sm, an_sv, am_sn, am_sm_e, am_sm_n, am_sv, ai_sn, ai_sm, ai_sv_e, ai_sv_n, reduceIte, or_false, false_or, or_true, true_or, or_self, and_true, true_and, and_false, false_and, not_true_eq_false, not_false_eq_true, h.first hm hi, h.first hm hj, h.second hm hi, h.second hm hj, show zSwO.getD 1 (nI 0) = nI 1 from rfl, Int32.not_le.mpr e]
    · rw [if_neg (fun q => e (k.mp q))]
      simp (disch := omega) only [↓bnd_s, ↓bnd2_s, ↓bnd3_s, ↓bnd4_s, ↓bnd5_s, ↓bndR_l, ↓bndR_r, ↓bndX_l, ↓bndX_r, ↓bndQ_s, ↓bndQ2_s, bndQ_s, bndQ2_s, bnd_s, bnd2_s, bnd3_s, bnd4_s, bnd5_s, bndR_l, bndR_r, bndX_l, bndX_r, nq_lt, nq_le, nq_inj, nq_add, nq_mul, nq_sub, nq_div, nq_neg1, nq_clamp, nq_ne1, nq_le1, ne1_lt, n1_lt0, n1_lt, n1_ne, nz0, nz1, nz2, nz3, nz4, nz5, nz6, nz8, nz10, nz31, nz32, nz50, nz400, nz800, nz3200, nz20000, nlt_f, nlt_t, nle_f, nle_t, neq_f, neq_t, gi_si_e, gi_si_n, gp_sp_e, gp_sp_n, gr_sr_e, gr_sr_n, gi_sp, gi_sr, gp_si, gp_sr, gr_si, gr_sp, upd_e, upd_n, un_e, un_n, an_sn_e, an_sn_n, an_sm, an_sv, am_sn, am_sm_e, am_sm_n, am_sv, ai_sn, ai_sm, ai_sv_e, ai_sv_n, reduceIte, or_false, false_or, or_true, true_or, or_self, and_true, true_and, and_false, false_and, not_true_eq_false, not_false_eq_true, h.first hm hi, h.first hm hj, h.second hm hi, h.second hm hj, show zSwO.getD 1 (nI 0) = nI 1 from rfl, Int32.not_lt.mp e]
  | 3, _, k =>
    simp only [show ¬ (3 : Nat) = 0 by decide, show ¬ (3 : Nat) = 1 by decide, show ¬ (3 : Nat) = 2 by decide, if_false] at k
    rw [show oOrd (oNo 3) = nI 2 from rfl]
    by_cases e : ai a 0 j < ai a 0 i
    · rw [if_pos (k.mpr (Or.inl e))]
      simp (disch := omega) only [↓bnd_s, ↓bnd2_s, ↓bnd3_s, ↓bnd4_s, ↓bnd5_s, ↓bndR_l, ↓bndR_r, ↓bndX_l, ↓bndX_r, ↓bndQ_s, ↓bndQ2_s, bndQ_s, bndQ2_s, bnd_s, bnd2_s, bnd3_s, bnd4_s, bnd5_s, bndR_l, bndR_r, bndX_l, bndX_r, nq_lt, nq_le, nq_inj, nq_add, nq_mul, nq_sub, nq_div, nq_neg1, nq_clamp, nq_ne1, nq_le1, ne1_lt, n1_lt0, n1_lt, n1_ne, nz0, nz1, nz2, nz3, nz4, nz5, nz6, nz8, nz10, nz31, nz32, nz50, nz400, nz800, nz3200, nz20000, nlt_f, nlt_t, nle_f, nle_t, neq_f, neq_t, gi_si_e, gi_si_n, gp_sp_e, gp_sp_n, gr_sr_e, gr_sr_n, gi_sp, gi_sr, gp_si, gp_sr, gr_si, gr_sp, upd_e, upd_n, un_e, un_n, an_sn_e, an_sn_n, an_sm, an_sv, am_sn, am_sm_e, am_sm_n, am_sv, ai_sn, ai_sm, ai_sv_e, ai_sv_n, reduceIte, or_false, false_or, or_true, true_or, or_self, and_true, true_and, and_false, false_and, not_true_eq_false, not_false_eq_true, h.first hm hi, h.first hm hj, show zSwO.getD 2 (nI 0) = nI 2 from rfl, e]
    · by_cases e2 : ai a 0 i = ai a 0 j
      · by_cases e3 : ai a 1 j < ai a 1 i
        · rw [if_pos (k.mpr (Or.inr ⟨e2.symm, e3⟩))]
          simp (disch := omega) only [↓bnd_s, ↓bnd2_s, ↓bnd3_s, ↓bnd4_s, ↓bnd5_s, ↓bndR_l, ↓bndR_r, ↓bndX_l, ↓bndX_r, ↓bndQ_s, ↓bndQ2_s, bndQ_s, bndQ2_s, bnd_s, bnd2_s, bnd3_s, bnd4_s, bnd5_s, bndR_l, bndR_r, bndX_l, bndX_r, nq_lt, nq_le, nq_inj, nq_add, nq_mul, nq_sub, nq_div, nq_neg1, nq_clamp, nq_ne1, nq_le1, ne1_lt, n1_lt0, n1_lt, n1_ne, nz0, nz1, nz2, nz3, nz4, nz5, nz6, nz8, nz10, nz31, nz32, nz50, nz400, nz800, nz3200, nz20000, nlt_f, nlt_t, nle_f, nle_t, neq_f, neq_t, gi_si_e, gi_si_n, gp_sp_e, gp_sp_n, gr_sr_e, gr_sr_n, gi_sp, gi_sr, gp_si, gp_sr, gr_si, gr_sp, upd_e, upd_n, un_e, un_n, an_sn_e, an_sn_n, an_sm, an_sv, am_sn, am_sm_e, am_sm_n, am_sv, ai_sn, ai_sm, ai_sv_e, ai_sv_n, reduceIte, or_false, false_or, or_true, true_or, or_self, and_true, true_and, and_false, false_and, not_true_eq_false, not_false_eq_true, h.first hm hi, h.first hm hj, h.second hm hi, h.second hm hj, show zSwO.getD 2 (nI 0) = nI 2 from rfl, e, e2, Int32.lt_irrefl, Int32.not_le.mpr e3]
        · rw [if_neg (show ¬ _ < _ from fun q => by rcases k.mp q with q | q; exact e q; exact e3 q.2)]
          simp (disch := omega) only [↓bnd_s, ↓bnd2_s, ↓bnd3_s, ↓bnd4_s, ↓bnd5_s, ↓bndR_l, ↓bndR_r, ↓bndX_l, ↓bndX_r, ↓bndQ_s, ↓bndQ2_s, bndQ_s, bndQ2_s, bnd_s, bnd2_s, bnd3_s, bnd4_s, bnd5_s, bndR_l, bndR_r, bndX_l, bndX_r, nq_lt, nq_le, nq_inj, nq_add, nq_mul, nq_sub, nq_div, nq_neg1, nq_clamp, nq_ne1, nq_le1, ne1_lt, n1_lt0, n1_lt, n1_ne, nz0, nz1, nz2, nz3, nz4, nz5, nz6, nz8, nz10, nz31, nz32, nz50, nz400, nz800, nz3200, nz20000, nlt_f, nlt_t, nle_f, nle_t, neq_f, neq_t, gi_si_e, gi_si_n, gp_sp_e, gp_sp_n, gr_sr_e, gr_sr_n, gi_sp, gi_sr, gp_si, gp_sr, gr_si, gr_sp, upd_e, upd_n, un_e, un_n, an_sn_e, an_sn_n, an_sm, an_sv, am_sn, am_sm_e, am_sm_n, am_sv, ai_sn, ai_sm, ai_sv_e, ai_sv_n, reduceIte, or_false, false_or, or_true, true_or, or_self, and_true, true_and, and_false, false_and, not_true_eq_false, not_false_eq_true, h.first hm hi, h.first hm hj, h.second hm hi, h.second hm hj, show zSwO.getD 2 (nI 0) = nI 2 from rfl, e, e2, Int32.lt_irrefl, Int32.not_lt.mp e3]
      · rw [if_neg (show ¬ _ < _ from fun q => by rcases k.mp q with q | q; exact e q; exact e2 q.1.symm)]
        simp (disch := omega) only [↓bnd_s, ↓bnd2_s, ↓bnd3_s, ↓bnd4_s, ↓bnd5_s, ↓bndR_l, ↓bndR_r, ↓bndX_l, ↓bndX_r, ↓bndQ_s, ↓bndQ2_s, bndQ_s, bndQ2_s, bnd_s, bnd2_s, bnd3_s, bnd4_s, bnd5_s, bndR_l, bndR_r, bndX_l, bndX_r, nq_lt, nq_le, nq_inj, nq_add, nq_mul, nq_sub, nq_div, nq_neg1, nq_clamp, nq_ne1, nq_le1, ne1_lt, n1_lt0, n1_lt, n1_ne, nz0, nz1, nz2, nz3, nz4, nz5, nz6, nz8, nz10, nz31, nz32, nz50, nz400, nz800, nz3200, nz20000, nlt_f, nlt_t, nle_f, nle_t, neq_f, neq_t, gi_si_e, gi_si_n, gp_sp_e, gp_sp_n, gr_sr_e, gr_sr_n, gi_sp, gi_sr, gp_si, gp_sr, gr_si, gr_sp, upd_e, upd_n, un_e, un_n, an_sn_e, an_sn_n, an_sm, an_sv, am_sn, am_sm_e, am_sm_n, am_sv, ai_sn, ai_sm, ai_sv_e, ai_sv_n, reduceIte, or_false, false_or, or_true, true_or, or_self, and_true, true_and, and_false, false_and, not_true_eq_false, not_false_eq_true, h.first hm hi, h.first hm hj, show zSwO.getD 2 (nI 0) = nI 2 from rfl, e, e2]
end KY
