/-! quotients of whole numbers are no NaN -/
def okF (f : FP.Core.Fmt) (x : Nat) : Prop := x < 2 * (f.exps * f.tails) ∧ x % (f.exps * f.tails) ≤ (f.exps - 1) * f.tails
def fmt2 (f : FP.Core.Fmt) : Prop := f = FP.Core.b32 ∨ f = FP.Core.b64
theorem okF_asm {f : FP.Core.Fmt} {s : Bool} {e t : Nat} (he : e + 1 < f.exps ∨ (e + 1 = f.exps ∧ t = 0)) (ht : t < f.tails) : okF f (FP.Core.assemble f s e t) := by
  have h1 : e * f.tails + t ≤ (f.exps - 1) * f.tails := by
    rcases he with h | ⟨h, h0⟩
    · have h2 : (e + 1) * f.tails ≤ (f.exps - 1) * f.tails := Nat.mul_le_mul_right _ (by omega)
      rw [Nat.succ_mul] at h2
      omega
    · rw [h0, show f.exps - 1 = e by omega]; omega
  have h2 : (f.exps - 1) * f.tails < f.exps * f.tails := Nat.mul_lt_mul_of_pos_right (by omega) (by omega)
  have h3 : FP.Core.assemble f s e t = s.toNat * (f.exps * f.tails) + (e * f.tails + t) := by
    unfold FP.Core.assemble
    rw [Nat.add_mul, Nat.mul_assoc, Nat.add_assoc]
  have h4 : s.toNat ≤ 1 := by cases s <;> decide
  refine ⟨?_, ?_⟩
  · rw [h3]
    have : s.toNat * (f.exps * f.tails) ≤ 1 * (f.exps * f.tails) := Nat.mul_le_mul_right _ h4
    omega
  · rw [h3, Nat.mul_comm s.toNat, Nat.mul_add_mod, Nat.mod_eq_of_lt (by omega)]
    exact h1
theorem okF_inf {f : FP.Core.Fmt} (hf : fmt2 f) (s : Bool) : okF f (FP.Core.encode f (.inf s)) := by
  rcases hf with rfl | rfl
  · exact okF_asm (Or.inr ⟨by decide +kernel, rfl⟩) (by decide +kernel)
  · exact okF_asm (Or.inr ⟨by decide +kernel, rfl⟩) (by decide +kernel)
theorem fmt_p {f : FP.Core.Fmt} (hf : fmt2 f) : 2 ^ f.p = 2 * f.tails ∧ 0 < f.tails ∧ 2 < f.exps ∧ f.qmax - f.qmin + 3 = (f.exps : Int) := by
  rcases hf with rfl | rfl
  · decide +kernel
  · decide +kernel
theorem okF_bound {f : FP.Core.Fmt} (hf : fmt2 f) (s : Bool) {c : Nat} (q : Int) (hc : c < 2 ^ f.p) : okF f (FP.Core.encode f (FP.Core.bound f s c q)) := by
  obtain ⟨p1, p2, p3, p4⟩ := fmt_p hf
  unfold FP.Core.bound
  by_cases h : q ≤ f.qmax
  · rw [if_pos h]
    show okF f (if c < f.tails then FP.Core.assemble f s 0 c else FP.Core.assemble f s ((q - f.qmin).toNat + 1) (c - f.tails))
    by_cases h2 : c < f.tails
    · rw [if_pos h2]; exact okF_asm (Or.inl (by omega)) h2
    · rw [if_neg h2]; exact okF_asm (Or.inl (by omega)) (by omega)
  · rw [if_neg h]; exact okF_inf hf s
theorem okF_ratio {f : FP.Core.Fmt} (hf : fmt2 f) (s : Bool) (num den : Nat) (e : Int) : okF f (FP.Core.encode f (FP.Core.roundRatio f s num den e)) := by
  obtain ⟨p1, p2, p3, p4⟩ := fmt_p hf
  unfold FP.Core.roundRatio
  by_cases h : num = 0
  · rw [if_pos h]
    show okF f (if 0 < f.tails then FP.Core.assemble f s 0 0 else _)
    rw [if_pos p2]
    exact okF_asm (Or.inl (by omega)) p2
  · rw [if_neg h]
    unfold FP.Core.roundAt FP.Core.settle
    by_cases h2 : FP.Core.nearest (FP.Core.unitsNum num e (FP.Core.quantum f num den e)) (FP.Core.unitsDen den e (FP.Core.quantum f num den e)) < 2 ^ f.p
    · rw [if_pos h2]; exact okF_bound hf s _ h2
    · rw [if_neg h2]; exact okF_bound hf s _ (by omega)
theorem okF_dec {f : FP.Core.Fmt} (hf : fmt2 f) {x : Nat} (h : okF f x) : FP.Core.decode f x ≠ .nan := by
  obtain ⟨p1, p2, p3, p4⟩ := fmt_p hf
  unfold FP.Core.decode FP.Core.fieldE FP.Core.fieldT
  intro h2
  by_cases h3 : x / f.tails % f.exps = f.exps - 1
  · rw [if_pos h3] at h2
    by_cases h4 : x % f.tails = 0
    · rw [if_pos h4] at h2; cases h2
    · have h5 : x % (f.exps * f.tails) = f.tails * (x / f.tails % f.exps) + x % f.tails := by
        rw [Nat.mul_comm f.exps, Nat.mod_mul]; omega
      have h6 := h.2
      rw [h5, h3, Nat.mul_comm] at h6
      omega
  · rw [if_neg h3] at h2
    by_cases h4 : x / f.tails % f.exps = 0
    · rw [if_pos h4] at h2; cases h2
    · rw [if_neg h4] at h2; cases h2
theorem okF_quot {f : FP.Core.Fmt} (hf : fmt2 f) {d1 d2 : FP.Core.Datum} (h1 : d1 ≠ .nan) {t : Bool} {d : Nat} {r : Int} (h2 : d2 = .fin t d r) (hd : d ≠ 0) : okF f (FP.Core.encode f (FP.Core.quotient f d1 d2)) := by
  subst h2
  cases d1 with
  | nan => exact absurd rfl h1
  | inf s => exact okF_inf hf _
  | fin s c q =>
    show okF f (FP.Core.encode f (if d = 0 then (if c = 0 then .nan else .inf (s != t)) else FP.Core.roundRatio f (s != t) c d (q - r)))
    rw [if_neg hd]
    exact okF_ratio hf _ _ _ _
theorem okF_int {f : FP.Core.Fmt} (hf : fmt2 f) (i : Int) : okF f (FP.Core.fromInt f i) := okF_ratio hf _ _ _ _
theorem okF_lt64 {x : Nat} (h : okF FP.Core.b64 x) : x < 18446744073709551616 := h.1
theorem okF_lt32 {x : Nat} (h : okF FP.Core.b32 x) : x < 4294967296 := h.1
theorem n64_of {x : Nat} (h : okF FP.Core.b64 x) : vf_n64 (UInt64.ofNat x) := by
  unfold vf_n64
  rw [UInt64.le_iff_toNat_le, UInt64.toNat_and, UInt64.toNat_ofNat_of_lt' (okF_lt64 h)]
  show x &&& (2 ^ 63 - 1) ≤ _
  rw [Nat.and_two_pow_sub_one_eq_mod]
  exact h.2
theorem n32_of {x : Nat} (h : okF FP.Core.b32 x) : vf_n32 (UInt32.ofNat x) := by
  unfold vf_n32
  rw [UInt32.le_iff_toNat_le, UInt32.toNat_and, UInt32.toNat_ofNat_of_lt' (okF_lt32 h)]
  show x &&& (2 ^ 31 - 1) ≤ _
  rw [Nat.and_two_pow_sub_one_eq_mod]
  exact h.2
def finNz (f : FP.Core.Fmt) (x : Nat) : Bool := match FP.Core.decode f x with
  | .fin _ c _ => c != 0
  | _ => false
theorem finNz_of {f : FP.Core.Fmt} {x : Nat} (h : finNz f x = true) : ∃ t d r, FP.Core.decode f x = .fin t d r ∧ d ≠ 0 := by
  unfold finNz at h
  cases e : FP.Core.decode f x with
  | nan => rw [e] at h; cases h
  | inf s => rw [e] at h; cases h
  | fin s c q =>
    rw [e] at h
    exact ⟨s, c, q, rfl, by simpa using h⟩
theorem finNz64 : ∀ k : Nat, k < 801 → k = 0 ∨ finNz FP.Core.b64 (FP.Core.fromInt FP.Core.b64 (k : Int)) = true := by decide +kernel
theorem finNz32 : ∀ k : Nat, k < 801 → k = 0 ∨ finNz FP.Core.b32 (FP.Core.fromInt FP.Core.b32 (k : Int)) = true := by decide +kernel
theorem ofInt64_nat {x : Nat} (h : okF FP.Core.b64 x) : (UInt64.ofNat x).toNat = x := UInt64.toNat_ofNat_of_lt' (okF_lt64 h)
theorem ofInt32_nat {x : Nat} (h : okF FP.Core.b32 x) : (UInt32.ofNat x).toNat = x := UInt32.toNat_ofNat_of_lt' (okF_lt32 h)
theorem mean_ok (o : Int64) {k : Nat} (h0 : k ≠ 0) (h8 : k ≤ 800) : ∃ x, okF FP.Core.b64 x ∧ FP.ddiv (FP.l2d o) (FP.i2d (nI k)) = UInt64.ofNat x := by
  have h1 : okF FP.Core.b64 (FP.Core.fromInt FP.Core.b64 o.toInt) := okF_int (Or.inr rfl) _
  have h2 : okF FP.Core.b64 (FP.Core.fromInt FP.Core.b64 (k : Int)) := okF_int (Or.inr rfl) _
  rcases finNz64 k (by omega) with h | h
  · exact absurd h h0
  · obtain ⟨t, d, r, e, hd⟩ := finNz_of h
    refine ⟨FP.Core.div FP.Core.b64 (FP.Core.fromInt FP.Core.b64 o.toInt) (FP.Core.fromInt FP.Core.b64 (k : Int)), okF_quot (Or.inr rfl) (okF_dec (Or.inr rfl) h1) e hd, ?_⟩
    show UInt64.ofNat (FP.Core.div FP.Core.b64 (UInt64.ofNat _).toNat (UInt64.ofNat _).toNat) = _
    rw [ofInt64_nat h1, nq_toInt (by omega), ofInt64_nat h2]
theorem share_ok (o : Nat) {k : Nat} (h0 : k ≠ 0) (h8 : k ≤ 800) : ∃ x, okF FP.Core.b32 x ∧ FP.fdiv (FP.i2f (nI o)) (FP.i2f (nI k)) = UInt32.ofNat x := by
  have h1 : okF FP.Core.b32 (FP.Core.fromInt FP.Core.b32 (nI o).toInt) := okF_int (Or.inl rfl) _
  have h2 : okF FP.Core.b32 (FP.Core.fromInt FP.Core.b32 (k : Int)) := okF_int (Or.inl rfl) _
  rcases finNz32 k (by omega) with h | h
  · exact absurd h h0
  · obtain ⟨t, d, r, e, hd⟩ := finNz_of h
    refine ⟨FP.Core.div FP.Core.b32 (FP.Core.fromInt FP.Core.b32 (nI o).toInt) (FP.Core.fromInt FP.Core.b32 (k : Int)), okF_quot (Or.inl rfl) (okF_dec (Or.inl rfl) h1) e hd, ?_⟩
    show UInt32.ofNat (FP.Core.div FP.Core.b32 (UInt32.ofNat _).toNat (UInt32.ofNat _).toNat) = _
    rw [ofInt32_nat h1, nq_toInt (k := k) (by omega), ofInt32_nat h2]
/-- what is no NaN equals itself -/
theorem order_self {d : FP.Core.Datum} (h : d ≠ .nan) : FP.Core.order d d = some .eq := by
  cases d with
  | nan => exact absurd rfl h
  | inf s => cases s <;> decide
  | fin s c q =>
    show some (compare _ _) = some Ordering.eq
    simp [Std.ReflCmp.compare_self]
theorem dcmp_self {x : Nat} (h : okF FP.Core.b64 x) : FP.dcmp (UInt64.ofNat x) (UInt64.ofNat x) = some .eq := by
  show FP.Core.order (FP.Core.decode FP.Core.b64 (UInt64.ofNat x).toNat) (FP.Core.decode FP.Core.b64 (UInt64.ofNat x).toNat) = _
  rw [ofInt64_nat h]
  exact order_self (okF_dec (Or.inr rfl) h)
theorem f2d_ok {x : Nat} (h : okF FP.Core.b32 x) : ∃ y, okF FP.Core.b64 y ∧ FP.f2d (UInt32.ofNat x) = UInt64.ofNat y := by
  have h1 := okF_dec (Or.inl rfl) h
  refine ⟨FP.Core.convert FP.Core.b32 FP.Core.b64 x, ?_, ?_⟩
  · show okF FP.Core.b64 (FP.Core.encode FP.Core.b64 (FP.Core.round FP.Core.b64 (FP.Core.decode FP.Core.b32 x)))
    cases e : FP.Core.decode FP.Core.b32 x with
    | nan => exact absurd e h1
    | inf s => exact okF_inf (Or.inr rfl) s
    | fin s c q => exact okF_ratio (Or.inr rfl) _ _ _ _
  · unfold FP.f2d
    have : FP.Core.fIsNaN (UInt32.ofNat x) = false := by
      unfold FP.Core.fIsNaN FP.Core.isNaN
      rw [ofInt32_nat h]
      exact decide_eq_false h1
    rw [this]
    show UInt64.ofNat (FP.Core.convert FP.Core.b32 FP.Core.b64 (UInt32.ofNat x).toNat) = _
    rw [ofInt32_nat h]
theorem okF_0 : okF FP.Core.b64 0 := ⟨by decide +kernel, by decide +kernel⟩
theorem okF_032 : okF FP.Core.b32 0 := ⟨by decide +kernel, by decide +kernel⟩
