/-! by second numbers, then by first ones: the order of both; the first least one -/
theorem isrt_id {key : Int32 → Int} {l : List Int32} (h : sortedK key l) : isrt key l = l := (SRT.idem h).is.symm
section BO
variable {a : AS}
theorem ky3 (x : Int32) : ky a 3 x = ky a 0 x * 4294967296 + ky a 2 x := rfl
theorem ky2_b (x : Int32) : -2147483648 ≤ ky a 2 x ∧ ky a 2 x < 2147483648 := by
  have h1 := Int32.le_toInt (ai a 1 x.toNatClampNeg)
  have h2 := Int32.toInt_lt (ai a 1 x.toNatClampNeg)
  unfold ky
  rw [if_neg (by decide), if_neg (by decide), if_pos rfl]
  omega
theorem ky3_eq (x y : Int32) : ky a 3 x = ky a 3 y ↔ (ky a 2 x = ky a 2 y ∧ ky a 0 x = ky a 0 y) := by
  have h1 := ky2_b (a := a) x
  have h2 := ky2_b (a := a) y
  rw [ky3, ky3]
  omega
theorem flt3 (y : Int32) (l : List Int32) : flt (ky a 3) (ky a 3 y) l = flt (ky a 2) (ky a 2 y) (flt (ky a 0) (ky a 0 y) l) := by
  unfold flt
  rw [List.filter_filter]
  refine List.filter_congr fun x _ => ?_
  rw [Bool.eq_iff_iff, Bool.and_eq_true, decide_eq_true_eq, decide_eq_true_eq, decide_eq_true_eq]
  exact ky3_eq x y
theorem flt3' (y : Int32) (l : List Int32) : flt (ky a 3) (ky a 3 y) l = flt (ky a 0) (ky a 0 y) (flt (ky a 2) (ky a 2 y) l) := by
  unfold flt
  rw [List.filter_filter]
  refine List.filter_congr fun x _ => ?_
  rw [Bool.eq_iff_iff, Bool.and_eq_true, decide_eq_true_eq, decide_eq_true_eq, decide_eq_true_eq]
  exact (ky3_eq x y).trans and_comm
theorem both_sorted : ∀ (l : List Int32), sortedK (ky a 0) l → (∀ c, sortedK (ky a 2) (flt (ky a 0) c l)) → sortedK (ky a 3) l
  | [], _, _ => List.Pairwise.nil
  | x :: l, h0, h2 => by
    obtain ⟨h3, h4⟩ := sortedK_cons.mp h0
    refine sortedK_cons.mpr ⟨fun y hy => ?_, both_sorted l h4 fun c => ?_⟩
    · have h5 := h3 y hy
      have h6 := ky2_b (a := a) x
      have h7 := ky2_b (a := a) y
      rw [ky3, ky3]
      by_cases e : ky a 0 y = ky a 0 x
      · have h8 := h2 (ky a 0 x)
        rw [flt_cons, if_pos rfl] at h8
        have h9 := (sortedK_cons.mp h8).1 y (flt_mem.mpr ⟨hy, e⟩)
        omega
      · omega
    · have h8 := h2 c
      rw [flt_cons] at h8
      by_cases e : ky a 0 x = c
      · rw [if_pos e] at h8; exact (sortedK_cons.mp h8).2
      · rw [if_neg e] at h8; exact h8
theorem both_eq (L : List Int32) : isrt (ky a 0) (isrt (ky a 2) L) = isrt (ky a 3) L := by
  obtain ⟨y1, y2, y3⟩ := isrt_srt (ky a 2) _ L rfl
  obtain ⟨x1, x2, x3⟩ := isrt_srt (ky a 0) _ (isrt (ky a 2) L) rfl
  refine SRT.is ⟨both_sorted _ x1 fun c => ?_, fun c => ?_, x3.trans y3⟩
  · rw [x2 c]
    unfold flt
    exact List.Pairwise.filter _ y1
  · by_cases h : ∃ z, ky a 3 z = c
    · obtain ⟨z, rfl⟩ := h
      rw [flt3, x2, ← flt3, flt3', y2, ← flt3']
    · rw [flt_none fun x _ e => h ⟨x, e⟩, flt_none fun x _ e => h ⟨x, e⟩]
end BO
/-- the first least one of a list comes first when it is sorted -/
theorem first_least {key : Int32 → Int} {A B T : List Int32} {x y : Int32} (h : SRT key (A ++ x :: B) (y :: T)) (hA : ∀ z, z ∈ A → key x < key z) (hB : ∀ z, z ∈ B → key x ≤ key z) : y = x ∧ SRT key (A ++ B) T := by
  obtain ⟨h1, h2, h3⟩ := h
  obtain ⟨h4, h5⟩ := sortedK_cons.mp h1
  have hAx : flt key (key x) A = [] := flt_none fun z hz e => by have := hA z hz; omega
  have hx : x ∈ y :: T := h3.mem_iff.mpr (List.mem_append_right _ List.mem_cons_self)
  have hy : y ∈ A ++ x :: B := h3.mem_iff.mp List.mem_cons_self
  have k1 : key y ≤ key x := by
    rcases List.mem_cons.mp hx with e | e
    · rw [e]; exact Int.le_refl _
    · exact h4 x e
  have k2 : key y = key x := by
    rcases List.mem_append.mp hy with e | e
    · have := hA y e; omega
    · rcases List.mem_cons.mp e with e | e
      · rw [e]
      · have := hB y e; omega
  have h6 := h2 (key x)
  rw [flt_cons, if_pos k2, flt_append, hAx, List.nil_append, flt_cons, if_pos rfl] at h6
  obtain ⟨rfl, h7⟩ := List.cons.inj h6
  refine ⟨rfl, h5, fun c => ?_, ?_⟩
  · have h8 := h2 c
    rw [flt_cons, flt_append, flt_cons] at h8
    rw [flt_append]
    by_cases e : key y = c
    · subst e
      rw [h7, hAx, List.nil_append]
    · rw [if_neg e, if_neg e] at h8
      exact h8
  · exact (List.perm_cons y).mp (h3.trans List.perm_middle)
/-- those of a part that aren't used -/
def unu (u f : Nat → Int32) : Nat → Nat → List Int32
  | _, 0 => []
  | i, n + 1 => if u i = 0 then f i :: unu u f (i + 1) n else unu u f (i + 1) n
theorem unu_app (u f : Nat → Int32) : ∀ (m n i : Nat), unu u f i (m + n) = unu u f i m ++ unu u f (i + m) n
  | 0, n, i => by rw [Nat.zero_add, Nat.add_zero]; rfl
  | m + 1, n, i => by
    rw [show m + 1 + n = m + n + 1 by omega, unu, unu, unu_app u f m n (i + 1), show i + 1 + m = i + (m + 1) by omega]
    by_cases e : u i = 0
    · rw [if_pos e, if_pos e, List.cons_append]
    · rw [if_neg e, if_neg e]
theorem unu_1 (u f : Nat → Int32) (i : Nat) : unu u f i 1 = if u i = 0 then [f i] else [] := rfl
theorem unu_congr {u u' f : Nat → Int32} : ∀ {n i : Nat}, (∀ k, i ≤ k → k < i + n → u k = u' k) → unu u f i n = unu u' f i n
  | 0, _, _ => rfl
  | n + 1, i, h => by
    rw [unu, unu, unu_congr (n := n) (i := i + 1) fun k h1 h2 => h k (by omega) (by omega), h i (Nat.le_refl _) (by omega)]
theorem unu_all {u f : Nat → Int32} : ∀ {n i : Nat}, (∀ k, i ≤ k → k < i + n → u k = 0) → unu u f i n = seg f i n
  | 0, _, _ => rfl
  | n + 1, i, h => by
    rw [unu, unu_all (n := n) (i := i + 1) fun k h1 h2 => h k (by omega) (by omega), if_pos (h i (Nat.le_refl _) (by omega))]; rfl
theorem unu_split {u f : Nat → Int32} {o n : Nat} (ho : o < n) : unu u f 0 n = unu u f 0 o ++ ((if u o = 0 then [f o] else []) ++ unu u f (o + 1) (n - (o + 1))) := by
  have h1 := unu_app u f o (n - o) 0
  rw [show o + (n - o) = n by omega, Nat.zero_add] at h1
  have h2 := unu_app u f 1 (n - (o + 1)) o
  rw [show 1 + (n - (o + 1)) = n - o by omega, unu_1] at h2
  rw [h1, h2]
