/-! small numbers as ints; guards decided by bounds -/
theorem nq_toInt {k : Nat} (h : k < 2147483648) : (nI k).toInt = k := Int32.toInt_ofNat_of_lt h
theorem nq_clamp {k : Nat} (h : k < 2147483648) : (nI k).toNatClampNeg = k := Int32.toNatClampNeg_ofNat_of_lt h
theorem nq_lt {a b : Nat} (ha : a < 2147483648) (hb : b < 2147483648) : (nI a < nI b) = (a < b) := propext (Int32.ofNat_lt_iff_lt ha hb)
theorem nq_le {a b : Nat} (ha : a < 2147483648) (hb : b < 2147483648) : (nI a ≤ nI b) = (a ≤ b) := propext (Int32.ofNat_le_iff_le ha hb)
theorem nq_inj {a b : Nat} (ha : a < 2147483648) (hb : b < 2147483648) : (nI a = nI b) = (a = b) := propext ⟨fun h => by
  have := congrArg Int32.toInt h
  rw [nq_toInt ha, nq_toInt hb] at this
  omega, fun h => by rw [h]⟩
theorem nq_add (a b : Nat) : nI a + nI b = nI (a + b) := (Int32.ofNat_add a b).symm
theorem nq_mul (a b : Nat) : nI a * nI b = nI (a * b) := (Int32.ofNat_mul a b).symm
theorem nq_sub {a b : Nat} (h : b ≤ a) : nI a - nI b = nI (a - b) := (Int32.ofNat_sub a b h).symm
theorem nq_div {a b : Nat} (ha : a < 2147483648) (hb : b < 2147483648) : nI a / nI b = nI (a / b) := (Int32.ofNat_div ha hb).symm
theorem nq_neg1 {a : Nat} (ha : 1 ≤ a) : nI a + -nI 1 = nI (a - 1) := by
  rw [← nq_sub ha, Int32.sub_eq_add_neg]
theorem nq_ne1 {a : Nat} (ha : a < 2147483648) : (nI a = -nI 1) = False := eq_false fun h => by
  have := congrArg Int32.toInt h
  rw [nq_toInt ha] at this
  have h2 : (-nI 1).toInt = -1 := by decide +kernel
  omega
theorem ne1_lt {a : Nat} (ha : a < 2147483648) : (-nI 1 < nI a) = True := eq_true (Int32.lt_iff_toInt_lt.mpr (by
  rw [nq_toInt ha]
  have h2 : (-nI 1).toInt = -1 := by decide +kernel
  omega))
theorem nq_le1 {a : Nat} (ha : a < 2147483648) : (nI a ≤ -nI 1) = False := eq_false fun h => by
  have := Int32.le_iff_toInt_le.mp h
  rw [nq_toInt ha] at this
  have h2 : (-nI 1).toInt = -1 := by decide +kernel
  omega
theorem n1_lt0 : (-nI 1 < nI 0) = True := by decide +kernel
theorem n1_lt {a : Nat} (ha : a < 2147483648) : (nI a < -nI 1) = False := eq_false fun h => by
  have := Int32.lt_iff_toInt_lt.mp h
  rw [nq_toInt ha] at this
  have h2 : (-nI 1).toInt = -1 := by decide +kernel
  omega
theorem n1_ne {a : Nat} (ha : a < 2147483648) : (-nI 1 = nI a) = False := eq_false fun h => by
  have := congrArg Int32.toInt h
  rw [nq_toInt ha] at this
  have h2 : (-nI 1).toInt = -1 := by decide +kernel
  omega
theorem nz0 : (0 : Int32) = nI 0 := rfl
theorem nz1 : (1 : Int32) = nI 1 := rfl
theorem nz2 : (2 : Int32) = nI 2 := rfl
theorem nz3 : (3 : Int32) = nI 3 := rfl
theorem nz4 : (4 : Int32) = nI 4 := rfl
theorem nz5 : (5 : Int32) = nI 5 := rfl
theorem nz6 : (6 : Int32) = nI 6 := rfl
theorem nz8 : (8 : Int32) = nI 8 := rfl
theorem nz10 : (10 : Int32) = nI 10 := rfl
theorem nz31 : (31 : Int32) = nI 31 := rfl
theorem nz32 : (32 : Int32) = nI 32 := rfl
theorem nz50 : (50 : Int32) = nI 50 := rfl
theorem nz400 : (400 : Int32) = nI 400 := rfl
theorem nz800 : (800 : Int32) = nI 800 := rfl
theorem nz3200 : (3200 : Int32) = nI 3200 := rfl
theorem nz20000 : (20000 : Int32) = nI 20000 := rfl
/-- an int that is not below 0 is a small number -/
theorem nq_of {x : Int32} (h : ¬ x < nI 0) : ∃ k : Nat, k < 2147483648 ∧ x = nI k := by
  refine ⟨x.toNatClampNeg, Int32.toNatClampNeg_lt x, ?_⟩
  refine (Int32.ofNat_toNatClampNeg x ?_).symm
  exact Int32.not_lt.mp h
theorem nlt_f {a b : Nat} (h : b ≤ a) : (a < b) = False := eq_false (by omega)
theorem nlt_t {a b : Nat} (h : a < b) : (a < b) = True := eq_true h
theorem nle_f {a b : Nat} (h : b < a) : (a ≤ b) = False := eq_false (by omega)
theorem nle_t {a b : Nat} (h : a ≤ b) : (a ≤ b) = True := eq_true h
theorem neq_f {a b : Nat} (h : a ≠ b) : (a = b) = False := eq_false h
theorem neq_t {a b : Nat} (h : a = b) : (a = b) = True := eq_true h
theorem gi_si_e (σ : St) (v : Int32) {k i : Nat} (h : i = k) : gi (si σ k v) i = v := by rw [gi_si, if_pos h]
theorem gi_si_n (σ : St) (v : Int32) {k i : Nat} (h : i ≠ k) : gi (si σ k v) i = gi σ i := by rw [gi_si, if_neg h]
theorem gp_sp_e (σ : St) (v : Nat) {k i : Nat} (h : i = k) : gp (sp σ k v) i = v := by rw [gp_sp, if_pos h]
theorem gp_sp_n (σ : St) (v : Nat) {k i : Nat} (h : i ≠ k) : gp (sp σ k v) i = gp σ i := by rw [gp_sp, if_neg h]
theorem gr_sr_e (σ : St) (f : Nat → Int32) {k i : Nat} (h : i = k) : gr (sr σ k f) i = f := by rw [gr_sr, if_pos h]
theorem gr_sr_n (σ : St) (f : Nat → Int32) {k i : Nat} (h : i ≠ k) : gr (sr σ k f) i = gr σ i := by rw [gr_sr, if_neg h]
theorem upd_e (f : Nat → Int32) (v : Int32) {k i : Nat} (h : i = k) : upd f k v i = v := by unfold upd; rw [if_pos h]
theorem upd_n (f : Nat → Int32) (v : Int32) {k i : Nat} (h : i ≠ k) : upd f k v i = f i := by unfold upd; rw [if_neg h]
def un (f : Nat → Nat) (k : Nat) (v : Nat) : Nat → Nat := fun i => if i = k then v else f i
theorem un_e (f : Nat → Nat) (v : Nat) {k i : Nat} (h : i = k) : un f k v i = v := by unfold un; rw [if_pos h]
theorem un_n (f : Nat → Nat) (v : Nat) {k i : Nat} (h : i ≠ k) : un f k v i = f i := by unfold un; rw [if_neg h]
theorem cpy_i (f g : Nat → Int32) {s d n k : Nat} (h1 : d ≤ k) (h2 : k < d + n) : va_cpy f g s d n k = f (s + (k - d)) := by unfold va_cpy; rw [if_pos ⟨h1, h2⟩]
theorem cpy_o (f g : Nat → Int32) {s d n k : Nat} (h : k < d ∨ d + n ≤ k) : va_cpy f g s d n k = g k := by unfold va_cpy; rw [if_neg (by omega)]
/-! the reading: what both programs hold, in numbers -/
abbrev AS : Type := (Nat → Nat) × (Nat → Nat → Nat) × (Nat → Nat → Int32)
/-- 0 cards made, 1 length of the text, 2 and 3 the sizes of copy and otherCopy, 10 + r the row's length, 20 + r the kept one's length, 30 + r whether it was kept -/
def an (a : AS) (k : Nat) : Nat := a.1 k
/-- r the row's marks, 4 + r the kept ones, 8 the text's bytes -/
def am (a : AS) (j : Nat) : Nat → Nat := a.2.1 j
/-- 0 first numbers, 1 second numbers, 2 the seed -/
def ai (a : AS) (j : Nat) : Nat → Int32 := a.2.2 j
def sn (a : AS) (k v : Nat) : AS := (un a.1 k v, a.2.1, a.2.2)
def sm (a : AS) (j : Nat) (f : Nat → Nat) : AS := (a.1, fun i => if i = j then f else a.2.1 i, a.2.2)
def sv (a : AS) (j : Nat) (f : Nat → Int32) : AS := (a.1, a.2.1, fun i => if i = j then f else a.2.2 i)
theorem an_sn_e (a : AS) (v : Nat) {k i : Nat} (h : i = k) : an (sn a k v) i = v := un_e _ _ h
theorem an_sn_n (a : AS) (v : Nat) {k i : Nat} (h : i ≠ k) : an (sn a k v) i = an a i := un_n _ _ h
theorem an_sm (a : AS) (j : Nat) (f : Nat → Nat) (i : Nat) : an (sm a j f) i = an a i := rfl
theorem an_sv (a : AS) (j : Nat) (f : Nat → Int32) (i : Nat) : an (sv a j f) i = an a i := rfl
theorem am_sn (a : AS) (k v : Nat) (i : Nat) : am (sn a k v) i = am a i := rfl
theorem am_sm_e (a : AS) (f : Nat → Nat) {j i : Nat} (h : i = j) : am (sm a j f) i = f := if_pos h
theorem am_sm_n (a : AS) (f : Nat → Nat) {j i : Nat} (h : i ≠ j) : am (sm a j f) i = am a i := if_neg h
theorem am_sv (a : AS) (j : Nat) (f : Nat → Int32) (i : Nat) : am (sv a j f) i = am a i := rfl
theorem ai_sn (a : AS) (k v : Nat) (i : Nat) : ai (sn a k v) i = ai a i := rfl
theorem ai_sm (a : AS) (j : Nat) (f : Nat → Nat) (i : Nat) : ai (sm a j f) i = ai a i := rfl
theorem ai_sv_e (a : AS) (f : Nat → Int32) {j i : Nat} (h : i = j) : ai (sv a j f) i = f := if_pos h
theorem ai_sv_n (a : AS) (f : Nat → Int32) {j i : Nat} (h : i ≠ j) : ai (sv a j f) i = ai a i := if_neg h
