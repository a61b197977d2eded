theorem sq_a0_11 : ∀ q, q < 61 → sqok false 11 q = true := by decide +kernel
theorem sq_a0_12 : ∀ q, q < 61 → sqok false 12 q = true := by decide +kernel
theorem sq_a0_13 : ∀ q, q < 61 → sqok false 13 q = true := by decide +kernel
theorem sq_a0_14 : ∀ q, q < 61 → sqok false 14 q = true := by decide +kernel
theorem sq_a0_15 : ∀ q, q < 61 → sqok false 15 q = true := by decide +kernel
