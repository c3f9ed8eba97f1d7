
theorem rl_0 : RL ar0_I sc0_I ar0_M sc0_M := by
  refine ⟨⟨rfl, rfl, rfl, rfl, rfl, fun _ => (by decide : (0 : Int32) = 0 / 30 + 0 / 100), rfl, rfl, rfl, rfl, rfl, rfl, rfl, rfl, rfl, rfl, rfl, rfl, rfl, rfl, fun _ _ => ⟨rfl, rfl, rfl, rfl⟩⟩, ⟨rfl, rfl, rfl, rfl, rfl, rfl, rfl, rfl, rfl, rfl, rfl, rfl, rfl⟩, ⟨?_, ?_, ?_, ?_, ?_, ?_, ?_, ?_, ?_, ?_, ?_, ?_, ?_⟩⟩
  · decide
  · decide
  · decide
  · decide
  · decide
  · intro j h; have h' : (j : Int) < 0 := h; omega
  · intro j h; have h' : (j : Int) < 0 := h; omega
  · intro j h; have h' : (j : Int) < 0 := h; omega
  · intro j h; have h' : (j : Int) < 0 := h; omega
  · intro j; exact (by decide : (0 : Int) ≤ (0 : Int32).toInt)
  · intro q _ h; exact absurd rfl h
  · decide
  · intro p h; have h' : (p : Int) < 0 := h; omega

