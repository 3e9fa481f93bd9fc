set_option maxHeartbeats 400000
/-! snapshots, undo, the beginning -/
theorem zs_0_gx (u : Nat) (hu : u ≤ 200000) : GX u zs_0 := by
  refine ⟨⟨Nat.zero_le _, Nat.le_refl _, ?_, ?_, ?_, ?_⟩, ?_, ?_, Nat.zero_le _, ?_, ?_, ⟨by show 0 < 20; omega, by show 1 < 2; omega, Nat.zero_le _, fun _ _ => by show 0 < 2; omega⟩, ?_, Nat.zero_le _, Nat.zero_le _, hu⟩
  · intro f hf
    exact absurd hf (Nat.not_lt_zero f)
  · intro f hf
    exact absurd hf (Nat.not_lt_zero f)
  · intro f k hf
    exact absurd hf (Nat.not_lt_zero f)
  · intro f k _ hk
    exact absurd hk (Nat.not_lt_zero k)
  · intro k _
    exact ⟨Nat.le_refl 1, by show 1 ≤ 9; omega, Nat.zero_le _⟩
  · intro f hf
    exact absurd hf (Nat.not_lt_zero f)
  · intro r k hr
    exact absurd hr (Nat.not_lt_zero r)
  · intro _ r hr
    exact absurd hr (Nat.not_lt_zero r)
  · intro f hf
    exact absurd hf (Nat.not_lt_zero f)
