/-! ===== the last part ===== -/
theorem last_1 : (1 : Nat) = 1 := rfl
