/-! the state of a new object -/
def z0 : SG := (fun _ => 0, fun _ _ => 0, fun _ => 0)
theorem vs_0 : VS z0 := by
  refine ⟨by decide, by decide, by decide, by decide, by decide, by decide, fun k hk => absurd hk (Nat.not_lt_zero k), fun k _ => Nat.zero_le _, fun k hk => absurd hk (Nat.not_lt_zero k), fun h => absurd h (by decide), by decide, by decide⟩
theorem cl_0 : Cls z0 (fun _ => 0) (fun _ _ => 0) := by
  refine ⟨⟨rfl, rfl, rfl, rfl, rfl, rfl, rfl, rfl, rfl⟩, ⟨fun _ _ => rfl, fun _ _ => rfl, fun _ _ => rfl, fun _ _ => ⟨rfl, rfl, rfl, rfl⟩⟩, fun h => absurd h (by decide)⟩
