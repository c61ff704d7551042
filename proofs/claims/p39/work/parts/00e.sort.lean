/-! stable sorting of lists by a key; merging, its count of wrong pairs; putting in -/
def sortedK (key : Int32 → Int) (l : List Int32) : Prop := List.Pairwise (fun a b => key a ≤ key b) l
def flt (key : Int32 → Int) (c : Int) (l : List Int32) : List Int32 := l.filter (fun x => decide (key x = c))
def SRT (key : Int32 → Int) (l l' : List Int32) : Prop := sortedK key l' ∧ (∀ c, flt key c l' = flt key c l) ∧ l'.Perm l
theorem flt_nil (key : Int32 → Int) (c : Int) : flt key c [] = [] := rfl
theorem flt_cons (key : Int32 → Int) (c : Int) (a : Int32) (l : List Int32) : flt key c (a :: l) = if key a = c then a :: flt key c l else flt key c l := by
  unfold flt
  rw [List.filter_cons]
  by_cases h : key a = c
  · simp [h]
  · simp [h]
theorem flt_append (key : Int32 → Int) (c : Int) (l r : List Int32) : flt key c (l ++ r) = flt key c l ++ flt key c r := List.filter_append ..
theorem flt_mem {key : Int32 → Int} {c : Int} {l : List Int32} {x : Int32} : x ∈ flt key c l ↔ x ∈ l ∧ key x = c := by
  unfold flt
  rw [List.mem_filter]
  simp
theorem flt_none {key : Int32 → Int} {c : Int} {l : List Int32} (h : ∀ x ∈ l, key x ≠ c) : flt key c l = [] := by
  cases h2 : flt key c l with
  | nil => rfl
  | cons a r =>
    have h3 : a ∈ flt key c l := by rw [h2]; exact List.mem_cons_self
    obtain ⟨h4, h5⟩ := flt_mem.mp h3
    exact absurd h5 (h a h4)
theorem sortedK_cons {key : Int32 → Int} {a : Int32} {l : List Int32} : sortedK key (a :: l) ↔ (∀ x ∈ l, key a ≤ key x) ∧ sortedK key l := List.pairwise_cons
theorem srt_uniq0 {key : Int32 → Int} : ∀ {l r : List Int32}, sortedK key l → sortedK key r → (∀ c, flt key c l = flt key c r) → l = r
  | [], [], _, _, _ => rfl
  | [], b :: r, _, _, h => by
    have h1 := h (key b)
    rw [flt_cons, if_pos rfl, flt_nil] at h1
    exact nomatch h1
  | a :: l, [], _, _, h => by
    have h1 := h (key a)
    rw [flt_cons, if_pos rfl, flt_nil] at h1
    exact nomatch h1
  | a :: l, b :: r, hl, hr, h => by
    have min : ∀ (x y : Int32) (m : List Int32), sortedK key (y :: m) → x ∈ y :: m → key y ≤ key x := by
      intro x y m hmy hx
      rcases List.mem_cons.mp hx with rfl | hx
      · exact Int.le_refl _
      · exact (sortedK_cons.mp hmy).1 x hx
    have h1 : key b ≤ key a := by
      have : a ∈ flt key (key a) (a :: l) := flt_mem.mpr ⟨List.mem_cons_self, rfl⟩
      rw [h] at this
      exact min a b r hr (flt_mem.mp this).1
    have h2 : key a ≤ key b := by
      have : b ∈ flt key (key b) (b :: r) := flt_mem.mpr ⟨List.mem_cons_self, rfl⟩
      rw [← h] at this
      exact min b a l hl (flt_mem.mp this).1
    have hab : key b = key a := Int.le_antisymm h1 h2
    have h3 := h (key a)
    rw [flt_cons, flt_cons, if_pos rfl, if_pos hab] at h3
    have e : a = b := (List.cons.inj h3).1
    subst e
    congr 1
    refine srt_uniq0 (sortedK_cons.mp hl).2 (sortedK_cons.mp hr).2 (fun c => ?_)
    have h4 := h c
    rw [flt_cons, flt_cons] at h4
    by_cases hcq : key a = c
    · rw [if_pos hcq, if_pos hcq] at h4; exact (List.cons.inj h4).2
    · rw [if_neg hcq, if_neg hcq] at h4; exact h4
theorem SRT.uniq {key : Int32 → Int} {l a b : List Int32} (ha : SRT key l a) (hb : SRT key l b) : a = b := srt_uniq0 ha.1 hb.1 fun c => (ha.2.1 c).trans (hb.2.1 c).symm
theorem SRT.len {key : Int32 → Int} {l a : List Int32} (h : SRT key l a) : a.length = l.length := h.2.2.length_eq
theorem SRT.rfl1 {key : Int32 → Int} {l : List Int32} (h : l.length ≤ 1) : SRT key l l := by
  refine ⟨?_, fun _ => rfl, List.Perm.refl _⟩
  match l, h with
  | [], _ => exact List.Pairwise.nil
  | [a], _ => exact List.pairwise_singleton _ _
theorem SRT.idem {key : Int32 → Int} {l : List Int32} (h : sortedK key l) : SRT key l l := ⟨h, fun _ => rfl, List.Perm.refl _⟩
/-- merging: the right one goesq ahead where its key is less -/
def mrg (key : Int32 → Int) : List Int32 → List Int32 → List Int32
  | [], r => r
  | a :: l, [] => a :: l
  | a :: l, b :: r => if key b < key a then b :: mrg key (a :: l) r else a :: mrg key l (b :: r)
termination_by l r => l.length + r.length
def mrgW (key : Int32 → Int) : List Int32 → List Int32 → Nat
  | [], _ => 0
  | _ :: _, [] => 0
  | a :: l, b :: r => if key b < key a then (l.length + 1) + mrgW key (a :: l) r else mrgW key l (b :: r)
termination_by l r => l.length + r.length
theorem mrg_nil_l (key : Int32 → Int) (r : List Int32) : mrg key [] r = r := by rw [mrg]
theorem mrg_nil_r (key : Int32 → Int) (l : List Int32) : mrg key l [] = l := by cases l <;> rw [mrg]
theorem mrgW_nil_l (key : Int32 → Int) (r : List Int32) : mrgW key [] r = 0 := by rw [mrgW]
theorem mrgW_nil_r (key : Int32 → Int) (l : List Int32) : mrgW key l [] = 0 := by cases l <;> rw [mrgW]
theorem mrg_cc (key : Int32 → Int) (a b : Int32) (l r : List Int32) : mrg key (a :: l) (b :: r) = if key b < key a then b :: mrg key (a :: l) r else a :: mrg key l (b :: r) := by rw [mrg]
theorem mrgW_cc (key : Int32 → Int) (a b : Int32) (l r : List Int32) : mrgW key (a :: l) (b :: r) = if key b < key a then (l.length + 1) + mrgW key (a :: l) r else mrgW key l (b :: r) := by rw [mrgW]
theorem mrg_perm (key : Int32 → Int) : ∀ (n : Nat) (l r : List Int32), l.length + r.length ≤ n → (mrg key l r).Perm (l ++ r)
  | n, [], r, _ => by rw [mrg_nil_l]; exact List.Perm.refl _
  | n, a :: l, [], _ => by rw [mrg_nil_r, List.append_nil]
  | n + 1, a :: l, b :: r, h => by
    rw [mrg_cc]
    have h' : l.length + r.length + 1 ≤ n := by simp only [List.length_cons] at h; omega
    by_cases hcq : key b < key a
    · rw [if_pos hcq]
      have h1 := mrg_perm key n (a :: l) r (by simp only [List.length_cons]; omega)
      exact (h1.cons b).trans (List.perm_middle.symm)
    · rw [if_neg hcq]
      have h1 := mrg_perm key n l (b :: r) (by simp only [List.length_cons]; omega)
      exact h1.cons a
  | 0, a :: l, b :: r, h => by simp at h
theorem mrg_len (key : Int32 → Int) (l r : List Int32) : (mrg key l r).length = l.length + r.length := by
  rw [(mrg_perm key _ l r (Nat.le_refl _)).length_eq, List.length_append]
theorem mrg_mem {key : Int32 → Int} {l r : List Int32} {x : Int32} : x ∈ mrg key l r ↔ x ∈ l ∨ x ∈ r := by
  rw [(mrg_perm key _ l r (Nat.le_refl _)).mem_iff, List.mem_append]
theorem mrg_sorted {key : Int32 → Int} : ∀ (n : Nat) (l r : List Int32), l.length + r.length ≤ n → sortedK key l → sortedK key r → sortedK key (mrg key l r) ∧ ∀ c, flt key c (mrg key l r) = flt key c l ++ flt key c r
  | n, [], r, _, _, hr => by rw [mrg_nil_l]; exact ⟨hr, fun c => by rw [flt_nil, List.nil_append]⟩
  | n, a :: l, [], _, hl, _ => by rw [mrg_nil_r]; exact ⟨hl, fun c => by rw [flt_nil, List.append_nil]⟩
  | 0, a :: l, b :: r, h, _, _ => by simp at h
  | n + 1, a :: l, b :: r, h, hl, hr => by
    rw [mrg_cc]
    have h' : l.length + r.length + 1 ≤ n := by simp only [List.length_cons] at h; omega
    obtain ⟨hl1, hl2⟩ := sortedK_cons.mp hl
    obtain ⟨hr1, hr2⟩ := sortedK_cons.mp hr
    by_cases hcq : key b < key a
    · rw [if_pos hcq]
      obtain ⟨h1, h2⟩ := mrg_sorted n (a :: l) r (by simp only [List.length_cons]; omega) hl hr2
      have hb : ∀ x ∈ a :: l, key b < key x := by
        intro x hx
        rcases List.mem_cons.mp hx with rfl | hx
        · exact hcq
        · exact Int.lt_of_lt_of_le hcq (hl1 x hx)
      refine ⟨sortedK_cons.mpr ⟨fun x hx => ?_, h1⟩, fun c => ?_⟩
      · rcases mrg_mem.mp hx with hx | hx
        · exact Int.le_of_lt (hb x hx)
        · exact hr1 x hx
      · rw [flt_cons, h2 c, flt_cons key c b r]
        by_cases hbc : key b = c
        · have h3 : flt key c (a :: l) = [] := flt_none fun x hx => by have := hb x hx; omega
          rw [if_pos hbc, if_pos hbc, h3, List.nil_append, List.nil_append]
        · rw [if_neg hbc, if_neg hbc]
    · rw [if_neg hcq]
      obtain ⟨h1, h2⟩ := mrg_sorted n l (b :: r) (by simp only [List.length_cons]; omega) hl2 hr
      refine ⟨sortedK_cons.mpr ⟨fun x hx => ?_, h1⟩, fun c => ?_⟩
      · rcases mrg_mem.mp hx with hx | hx
        · exact hl1 x hx
        · have h3 : key a ≤ key b := Int.not_lt.mp hcq
          rcases List.mem_cons.mp hx with rfl | hx
          · exact h3
          · exact Int.le_trans h3 (hr1 x hx)
      · rw [flt_cons, h2 c, flt_cons key c a l]
        by_cases hac : key a = c
        · rw [if_pos hac, if_pos hac, List.cons_append]
        · rw [if_neg hac, if_neg hac]
theorem SRT.mrg {key : Int32 → Int} {l l' r r' : List Int32} (hl : SRT key l l') (hr : SRT key r r') : SRT key (l ++ r) (mrg key l' r') := by
  obtain ⟨h1, h2⟩ := mrg_sorted _ l' r' (Nat.le_refl _) hl.1 hr.1
  refine ⟨h1, fun c => by rw [h2 c, hl.2.1 c, hr.2.1 c, flt_append], ?_⟩
  exact (mrg_perm key _ l' r' (Nat.le_refl _)).trans (hl.2.2.append hr.2.2)
/-- wrong pairs -/
def cntL (key : Int32 → Int) (a : Int32) (l : List Int32) : Nat := l.countP (fun b => decide (key b < key a))
def crs (key : Int32 → Int) (l r : List Int32) : Nat := (l.map (fun a => cntL key a r)).sum
def invs (key : Int32 → Int) : List Int32 → Nat
  | [] => 0
  | a :: l => cntL key a l + invs key l
theorem cntL_app (key : Int32 → Int) (a : Int32) (l r : List Int32) : cntL key a (l ++ r) = cntL key a l + cntL key a r := List.countP_append ..
theorem crs_cons (key : Int32 → Int) (a : Int32) (l r : List Int32) : crs key (a :: l) r = cntL key a r + crs key l r := by simp [crs]
theorem crs_nil (key : Int32 → Int) (r : List Int32) : crs key [] r = 0 := rfl
theorem crs_nil_r (key : Int32 → Int) : ∀ l : List Int32, crs key l [] = 0
  | [] => rfl
  | a :: l => by rw [crs_cons, crs_nil_r key l]; rfl
theorem invs_app (key : Int32 → Int) : ∀ (l r : List Int32), invs key (l ++ r) = invs key l + invs key r + crs key l r
  | [], r => by simp [invs, crs]
  | a :: l, r => by
    rw [List.cons_append, invs, invs, crs_cons, invs_app key l r, cntL_app]
    omega
theorem crs_cons_r (key : Int32 → Int) (b : Int32) (r : List Int32) : ∀ l : List Int32, crs key l (b :: r) = l.countP (fun a => decide (key b < key a)) + crs key l r
  | [] => rfl
  | a :: l => by
    rw [crs_cons, crs_cons, crs_cons_r key b r l]
    unfold cntL
    rw [List.countP_cons, List.countP_cons]
    omega
theorem permSum {l l' : List Nat} (h : l.Perm l') : l.sum = l'.sum := by
  induction h with
  | nil => rfl
  | cons x _ ihy => simp [ihy]
  | swap x y l => simp only [List.sum_cons]; omega
  | trans _ _ ih1 ih2 => exact ih1.trans ih2
theorem crs_perm_l {key : Int32 → Int} {l l' : List Int32} (r : List Int32) (h : l.Perm l') : crs key l r = crs key l' r := by
  unfold crs
  exact permSum (h.map _)
theorem cntL_perm {key : Int32 → Int} (a : Int32) {r r' : List Int32} (h : r.Perm r') : cntL key a r = cntL key a r' := h.countP_eq _
theorem crs_perm {key : Int32 → Int} {l l' r r' : List Int32} (h : l.Perm l') (h2 : r.Perm r') : crs key l r = crs key l' r' := by
  rw [crs_perm_l r h]
  unfold crs
  congr 1
  exact List.map_congr_left fun a _ => cntL_perm a h2
theorem mrgW_eq {key : Int32 → Int} : ∀ (n : Nat) (l r : List Int32), l.length + r.length ≤ n → sortedK key l → sortedK key r → mrgW key l r = crs key l r
  | n, [], r, _, _, _ => by rw [mrgW_nil_l, crs_nil]
  | n, a :: l, [], _, _, _ => by rw [mrgW_nil_r, crs_nil_r]
  | 0, a :: l, b :: r, h, _, _ => by simp at h
  | n + 1, a :: l, b :: r, h, hl, hr => by
    rw [mrgW_cc]
    have h' : l.length + r.length + 1 ≤ n := by simp only [List.length_cons] at h; omega
    obtain ⟨hl1, hl2⟩ := sortedK_cons.mp hl
    obtain ⟨hr1, hr2⟩ := sortedK_cons.mp hr
    by_cases hcq : key b < key a
    · rw [if_pos hcq, mrgW_eq n (a :: l) r (by simp only [List.length_cons]; omega) hl hr2, crs_cons_r]
      congr 1
      have h3 : (a :: l).countP (fun x => decide (key b < key x)) = (a :: l).length := List.countP_eq_length.mpr fun x hx => by
        rcases List.mem_cons.mp hx with rfl | hx
        · exact decide_eq_true hcq
        · exact decide_eq_true (Int.lt_of_lt_of_le hcq (hl1 x hx))
      rw [h3, List.length_cons]
    · rw [if_neg hcq, mrgW_eq n l (b :: r) (by simp only [List.length_cons]; omega) hl2 hr, crs_cons]
      have h3 : cntL key a (b :: r) = 0 := List.countP_eq_zero.mpr fun x hx => by
        have h4 : key a ≤ key b := Int.not_lt.mp hcq
        rcases List.mem_cons.mp hx with rfl | hx
        · simp only [decide_eq_true_eq]; omega
        · have := hr1 x hx
          simp only [decide_eq_true_eq]; omega
      omega
/-- putting in, from the right: behind all whose key is not greater -/
def insK (key : Int32 → Int) (x : Int32) : List Int32 → List Int32
  | [] => [x]
  | a :: l => if key x < key a then x :: a :: l else a :: insK key x l
theorem insK_perm (key : Int32 → Int) (x : Int32) : ∀ l : List Int32, (insK key x l).Perm (x :: l)
  | [] => List.Perm.refl _
  | a :: l => by
    unfold insK
    by_cases h : key x < key a
    · rw [if_pos h]
    · rw [if_neg h]
      exact ((insK_perm key x l).cons a).trans (List.Perm.swap x a l)
theorem insK_srt {key : Int32 → Int} (x : Int32) : ∀ {l : List Int32}, sortedK key l → sortedK key (insK key x l) ∧ ∀ c, flt key c (insK key x l) = flt key c (l ++ [x])
  | [], _ => ⟨List.pairwise_singleton _ _, fun _ => rfl⟩
  | a :: l, hl => by
    obtain ⟨hl1, hl2⟩ := sortedK_cons.mp hl
    unfold insK
    by_cases h : key x < key a
    · rw [if_pos h]
      have hb : ∀ y ∈ a :: l, key x < key y := by
        intro y hy
        rcases List.mem_cons.mp hy with rfl | hy
        · exact h
        · exact Int.lt_of_lt_of_le h (hl1 y hy)
      refine ⟨sortedK_cons.mpr ⟨fun y hy => Int.le_of_lt (hb y hy), hl⟩, fun c => ?_⟩
      rw [flt_append, flt_cons, flt_cons key c x [], flt_nil]
      by_cases hx : key x = c
      · rw [if_pos hx, if_pos hx, flt_none (l := a :: l) fun y hy => by have := hb y hy; omega]; rfl
      · rw [if_neg hx, if_neg hx, List.append_nil]
    · rw [if_neg h]
      obtain ⟨h1, h2⟩ := insK_srt x hl2
      refine ⟨sortedK_cons.mpr ⟨fun y hy => ?_, h1⟩, fun c => ?_⟩
      · rcases List.mem_cons.mp ((insK_perm key x l).mem_iff.mp hy) with rfl | hy
        · exact Int.not_lt.mp h
        · exact hl1 y hy
      · rw [flt_cons, h2 c, List.cons_append, flt_cons]
theorem SRT.ins {key : Int32 → Int} {l l' : List Int32} (x : Int32) (h : SRT key l l') : SRT key (l ++ [x]) (insK key x l') := by
  obtain ⟨h1, h2⟩ := insK_srt x h.1
  refine ⟨h1, fun c => by rw [h2 c, flt_append, flt_append, h.2.1 c], ?_⟩
  exact (insK_perm key x l').trans (((h.2.2.cons x)).trans (List.perm_append_singleton x l).symm)
/-- one after another: there is such a list -/
def isrt (key : Int32 → Int) (l : List Int32) : List Int32 := l.foldl (fun acc x => insK key x acc) []
theorem isrt_app (key : Int32 → Int) (l : List Int32) (x : Int32) : isrt key (l ++ [x]) = insK key x (isrt key l) := by
  unfold isrt
  rw [List.foldl_append]; rfl
theorem isrt_srt (key : Int32 → Int) : ∀ (n : Nat) (l : List Int32), l.length = n → SRT key l (isrt key l)
  | 0, l, h => by
    have : l = [] := List.eq_nil_of_length_eq_zero h
    subst this
    exact ⟨List.Pairwise.nil, fun _ => rfl, List.Perm.refl _⟩
  | n + 1, l, h => by
    rcases List.eq_nil_or_concat l with rfl | ⟨l', x, rfl⟩
    · simp at h
    · rw [List.concat_eq_append] at h ⊢
      rw [isrt_app]
      exact (isrt_srt key n l' (by rw [List.length_append] at h; simpa using h)).ins x
theorem SRT.is {key : Int32 → Int} {l l' : List Int32} (h : SRT key l l') : l' = isrt key l := h.uniq (isrt_srt key _ l rfl)
