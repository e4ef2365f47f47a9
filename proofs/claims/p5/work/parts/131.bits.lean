theorem bt_1 : ∀ i, i < 32 → bt 1 i = decide (i = 0) := by decide +kernel
theorem bt_and1 (x : Int32) : (x &&& (1 : Int32)) = 0 ↔ bt x 0 = false := by
  constructor
  · intro h
    have q := congrArg (fun y => bt y 0) h
    simp only [b_and, b_0, bt_1 0 (by omega)] at q
    simpa using q
  · intro h
    apply b_ext
    intro i hi
    rw [b_and, b_0, bt_1 i hi]
    by_cases h0 : i = 0
    · rw [h0, h]
      rfl
    · simp [h0]
