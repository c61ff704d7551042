/-! the functions' own words: states by keys, what binds; by program out of the generated parts -/
abbrev St : Type := (Nat → Int32) × (Nat → Nat) × (Nat → Nat → Int32)
def gi (σ : St) (k : Nat) : Int32 := σ.1 k
def gp (σ : St) (k : Nat) : Nat := σ.2.1 k
def gr (σ : St) (j : Nat) : Nat → Int32 := σ.2.2 j
def si (σ : St) (k : Nat) (v : Int32) : St := (upd σ.1 k v, σ.2.1, σ.2.2)
def sp (σ : St) (k : Nat) (v : Nat) : St := (σ.1, va_up σ.2.1 k v, σ.2.2)
def sr (σ : St) (j : Nat) (f : Nat → Int32) : St := (σ.1, σ.2.1, va_up σ.2.2 j f)
theorem gi_si (σ : St) (k : Nat) (v : Int32) (i : Nat) : gi (si σ k v) i = if i = k then v else gi σ i := rfl
theorem gi_sp (σ : St) (k : Nat) (v : Nat) (i : Nat) : gi (sp σ k v) i = gi σ i := rfl
theorem gi_sr (σ : St) (j : Nat) (f : Nat → Int32) (i : Nat) : gi (sr σ j f) i = gi σ i := rfl
theorem gp_si (σ : St) (k : Nat) (v : Int32) (i : Nat) : gp (si σ k v) i = gp σ i := rfl
theorem gp_sp (σ : St) (k : Nat) (v : Nat) (i : Nat) : gp (sp σ k v) i = if i = k then v else gp σ i := rfl
theorem gp_sr (σ : St) (j : Nat) (f : Nat → Int32) (i : Nat) : gp (sr σ j f) i = gp σ i := rfl
theorem gr_si (σ : St) (k : Nat) (v : Int32) (j : Nat) : gr (si σ k v) j = gr σ j := rfl
theorem gr_sp (σ : St) (k : Nat) (v : Nat) (j : Nat) : gr (sp σ k v) j = gr σ j := rfl
theorem gr_sr (σ : St) (j : Nat) (f : Nat → Int32) (i : Nat) : gr (sr σ j f) i = if i = j then f else gr σ i := rfl
def bnd {α β : Type} (x : Option α) (f : α → Option β) : Option β := match x with
  | none => none
  | some a => f a
theorem bnd_some {α β : Type} {x : Option α} {f : α → Option β} {z : β} (h : bnd x f = some z) : ∃ a, x = some a ∧ f a = some z := by
  cases x with
  | none => cases h
  | some a => exact ⟨a, rfl, h⟩
theorem bnd_s {α β : Type} (a : α) (f : α → Option β) : bnd (some a) f = f a := rfl
theorem bnd_of {α β : Type} {x : Option α} {a : α} (f : α → Option β) (h : x = some a) : bnd x f = f a := by rw [h]; rfl
theorem grd_some {c : Prop} [Decidable c] {β : Type} {x : Option β} {z : β} (h : (if c then none else x) = some z) : ¬ c ∧ x = some z := by
  by_cases hcq : c
  · rw [if_pos hcq] at h; cases h
  · rw [if_neg hcq] at h; exact ⟨hcq, h⟩
theorem ift {c : Prop} [Decidable c] {β : Type} {x y z : β} (hcq : c) (h : (if c then x else y) = z) : x = z := by rwa [if_pos hcq] at h
theorem iff_ {c : Prop} [Decidable c] {β : Type} {x y z : β} (hcq : ¬ c) (h : (if c then x else y) = z) : y = z := by rwa [if_neg hcq] at h
def bnd2 {α β γ : Type} (x : Option (α × β)) (f : α → β → Option γ) : Option γ := match x with
  | none => none
  | some (a, b) => f a b
theorem bnd2_some {α β γ : Type} {x : Option (α × β)} {f : α → β → Option γ} {z : γ} (h : bnd2 x f = some z) : ∃ a b, x = some (a, b) ∧ f a b = some z := by
  match x, h with
  | some (a, b), h => exact ⟨a, b, rfl, h⟩
theorem bnd2_s {α β γ : Type} (a : α) (b : β) (f : α → β → Option γ) : bnd2 (some (a, b)) f = f a b := rfl
def bnd3 {α β δ γ : Type} (x : Option (α × β × δ)) (f : α → β → δ → Option γ) : Option γ := match x with
  | none => none
  | some (a, b, d) => f a b d
theorem bnd3_some {α β δ γ : Type} {x : Option (α × β × δ)} {f : α → β → δ → Option γ} {z : γ} (h : bnd3 x f = some z) : ∃ a b d, x = some (a, b, d) ∧ f a b d = some z := by
  match x, h with
  | some (a, b, d), h => exact ⟨a, b, d, rfl, h⟩
theorem bnd3_s {α β δ γ : Type} (a : α) (b : β) (d : δ) (f : α → β → δ → Option γ) : bnd3 (some (a, b, d)) f = f a b d := rfl
def bnd4 {α β δ ε γ : Type} (x : Option (α × β × δ × ε)) (f : α → β → δ → ε → Option γ) : Option γ := match x with
  | none => none
  | some (a, b, d, e) => f a b d e
theorem bnd4_some {α β δ ε γ : Type} {x : Option (α × β × δ × ε)} {f : α → β → δ → ε → Option γ} {z : γ} (h : bnd4 x f = some z) : ∃ a b d e, x = some (a, b, d, e) ∧ f a b d e = some z := by
  match x, h with
  | some (a, b, d, e), h => exact ⟨a, b, d, e, rfl, h⟩
theorem bnd4_s {α β δ ε γ : Type} (a : α) (b : β) (d : δ) (e : ε) (f : α → β → δ → ε → Option γ) : bnd4 (some (a, b, d, e)) f = f a b d e := rfl
def bnd5 {α β δ ε ζ γ : Type} (x : Option (α × β × δ × ε × ζ)) (f : α → β → δ → ε → ζ → Option γ) : Option γ := match x with
  | none => none
  | some (a, b, d, e, g) => f a b d e g
theorem bnd5_some {α β δ ε ζ γ : Type} {x : Option (α × β × δ × ε × ζ)} {f : α → β → δ → ε → ζ → Option γ} {z : γ} (h : bnd5 x f = some z) : ∃ a b d e g, x = some (a, b, d, e, g) ∧ f a b d e g = some z := by
  match x, h with
  | some (a, b, d, e, g), h => exact ⟨a, b, d, e, g, rfl, h⟩
theorem bnd5_s {α β δ ε ζ γ : Type} (a : α) (b : β) (d : δ) (e : ε) (g : ζ) (f : α → β → δ → ε → ζ → Option γ) : bnd5 (some (a, b, d, e, g)) f = f a b d e g := rfl
/-- a loop that may return from within -/
def bndR {ρ α γ : Type} (ret : ρ → γ) (x : Option (ρ ⊕ α)) (f : α → Option γ) : Option γ := match x with
  | none => none
  | some (.inl r) => some (ret r)
  | some (.inr a) => f a
theorem bndR_some {ρ α γ : Type} {ret : ρ → γ} {x : Option (ρ ⊕ α)} {f : α → Option γ} {z : γ} (h : bndR ret x f = some z) : (∃ r, x = some (.inl r) ∧ ret r = z) ∨ ∃ a, x = some (.inr a) ∧ f a = some z := by
  match x, h with
  | some (.inl r), h => exact Or.inl ⟨r, rfl, Option.some.inj h⟩
  | some (.inr a), h => exact Or.inr ⟨a, rfl, h⟩
theorem bndR_l {ρ α γ : Type} (ret : ρ → γ) (r : ρ) (f : α → Option γ) : bndR ret (some (.inl r)) f = some (ret r) := rfl
theorem bndR_r {ρ α γ : Type} (ret : ρ → γ) (a : α) (f : α → Option γ) : bndR ret (some (.inr a) : Option (ρ ⊕ α)) f = f a := rfl
/-- a callee that may throw: its class goesq on -/
def bndX {α γ : Type} (thr : String → γ) (x : Option (String ⊕ α)) (f : α → Option γ) : Option γ := match x with
  | none => none
  | some (.inl E) => some (thr E)
  | some (.inr a) => f a
theorem bndX_some {α γ : Type} {thr : String → γ} {x : Option (String ⊕ α)} {f : α → Option γ} {z : γ} (h : bndX thr x f = some z) : (∃ E, x = some (.inl E) ∧ thr E = z) ∨ ∃ a, x = some (.inr a) ∧ f a = some z := by
  match x, h with
  | some (.inl r), h => exact Or.inl ⟨r, rfl, Option.some.inj h⟩
  | some (.inr a), h => exact Or.inr ⟨a, rfl, h⟩
theorem bndX_l {α γ : Type} (thr : String → γ) (r : String) (f : α → Option γ) : bndX thr (some (.inl r)) f = some (thr r) := rfl
theorem bndX_r {α γ : Type} (thr : String → γ) (a : α) (f : α → Option γ) : bndX thr (some (.inr a)) f = f a := rfl
def FU : Nat := 4000
def zSl : List Nat := [4, 4, 4, 4, 4, 5, 1, 1, 3]
def zSb : List (List Int32) := [[115, 97, 109, 101], [114, 105, 115, 101], [102, 97, 108, 108], [119, 97, 118, 101], [100, 114, 97, 119], [116, 101, 101, 116, 104], [59], [45], [109, 111, 100]]
def zSwK : List Int32 := [0, 1, 2, 3, 5, 4]
def zSwO : List Int32 := [0, 1, 2, 3]
def kOrd (k : Nat) : Int32 := [0, 1, 2, 3, 4, 5].getD k 0
def kStp (k : Nat) : Int32 := [0, 1, 1, 1, 1, 1].getD k 0
def kLen (k : Nat) : Int32 := [0, 0, 0, 0, 0, 1].getD k 0
def oOrd (k : Nat) : Int32 := [0, 1, 2, 3].getD k 0
def sLen (i : Nat) : Int32 := Int32.ofNat (zSl.getD i 0)
def sCh (i : Nat) (q : Int32) : Int32 := (zSb.getD i []).getD q.toNatClampNeg 0
def bndQ {α γ : Type} (x : Option (String ⊕ α)) (f : α → Option γ) : Option γ := match x with
  | some (.inr a) => f a
  | _ => none
theorem bndQ_some {α γ : Type} {x : Option (String ⊕ α)} {f : α → Option γ} {z : γ} (h : bndQ x f = some z) : ∃ a, x = some (.inr a) ∧ f a = some z := by
  match x, h with
  | some (.inr a), h => exact ⟨a, rfl, h⟩
theorem bndQ_s {α γ : Type} (a : α) (f : α → Option γ) : bndQ (some (.inr a)) f = f a := rfl
def bndQ2 {α γ : Type} (x : Option ((String ⊕ α) × St)) (f : α → St → Option γ) : Option γ := match x with
  | some (.inr a, σ) => f a σ
  | _ => none
theorem bndQ2_some {α γ : Type} {x : Option ((String ⊕ α) × St)} {f : α → St → Option γ} {z : γ} (h : bndQ2 x f = some z) : ∃ a σ, x = some (.inr a, σ) ∧ f a σ = some z := by
  match x, h with
  | some (.inr a, σ), h => exact ⟨a, σ, rfl, h⟩
theorem bndQ2_s {α γ : Type} (a : α) (σ : St) (f : α → St → Option γ) : bndQ2 (some (.inr a, σ)) f = f a σ := rfl
