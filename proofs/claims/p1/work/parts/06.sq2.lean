theorem sq_a0_6 : ∀ q, q < 61 → sqok false 6 q = true := by decide +kernel
theorem sq_a0_7 : ∀ q, q < 61 → sqok false 7 q = true := by decide +kernel
theorem sq_a0_8 : ∀ q, q < 61 → sqok false 8 q = true := by decide +kernel
theorem sq_a0_9 : ∀ q, q < 61 → sqok false 9 q = true := by decide +kernel
theorem sq_a0_10 : ∀ q, q < 61 → sqok false 10 q = true := by decide +kernel
