theorem sq_a0_16 : ∀ q, q < 61 → sqok false 16 q = true := by decide +kernel
theorem sq_a0_17 : ∀ q, q < 61 → sqok false 17 q = true := by decide +kernel
theorem sq_a0_18 : ∀ q, q < 61 → sqok false 18 q = true := by decide +kernel
theorem sq_a0_19 : ∀ q, q < 61 → sqok false 19 q = true := by decide +kernel
theorem sq_a0_20 : ∀ q, q < 61 → sqok false 20 q = true := by decide +kernel
