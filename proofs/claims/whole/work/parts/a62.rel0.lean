/-! both programs as they are made: the relation holds -/
def a0Z : AS := (fun _ => 0, fun _ _ => 0, fun j i => if j = 2 then (if i = 0 then 1 else 0) else 0)
theorem REL_0 : REL a0Z sZ tZ := by
  have no : ∀ {k : Nat} {P : Prop}, k < 0 → P := fun h => absurd h (Nat.not_lt_zero _)
  have c1 : ∀ x : Nat, x ≠ 112 → gi sZ x = nI 0 := fun x hx => by
    show (if x = 112 then (1 : Int32) else 0) = nI 0
    rw [if_neg hx]; rfl
  have t1 : ∀ x : Nat, x ≠ 9 → gi tZ x = nI 0 := fun x hx => by
    show (if x = 9 then (1 : Int32) else 0) = nI 0
    rw [if_neg hx]; rfl
  refine ⟨⟨Nat.zero_le _, Nat.zero_le _, Nat.zero_le _, Nat.zero_le _, fun _ _ => Nat.zero_le _, fun _ _ => Nat.zero_le _, fun _ _ _ h => no h, fun _ _ _ h => no h, fun _ h => no h, fun _ _ _ => rfl⟩, ⟨c1 10 (by decide), fun _ h => no h, fun _ h => no h⟩, ⟨fun r hr => c1 _ (by omega), fun _ _ _ h => no h⟩, ⟨fun r hr => ⟨0, Nat.zero_le _, c1 _ (by omega), fun _ => rfl⟩, fun _ _ _ h => no h, fun r hr => ?_⟩, ⟨c1 81 (by decide), fun _ h => no h⟩, ⟨rfl, c1 _ (by decide), c1 _ (by decide), Or.inl ⟨rfl, rfl⟩⟩, ⟨t1 2 (by decide), fun _ h => no h, fun _ h => no h⟩, ⟨fun r hr => rfl, fun _ _ _ h => no h⟩, ⟨fun r hr => ?_, fun _ _ _ h => no h⟩, ⟨t1 8 (by decide), fun _ h => no h⟩, rfl⟩
  · show (0 : Int32) = if (0 : Nat) = 0 then 0 else 1
    rw [if_pos rfl]
  · match r, hr with
    | 0, _ => decide
    | 1, _ => decide
    | 2, _ => decide
    | 3, _ => decide
    | r + 4, h => exact absurd h (by omega)
