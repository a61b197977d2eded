theorem sq_a0_16 : ∀ q, q < 61 → sqok 0 16 q = true := by decide +kernel
theorem sq_a0_17 : ∀ q, q < 61 → sqok 0 17 q = true := by decide +kernel
theorem sq_a0_18 : ∀ q, q < 61 → sqok 0 18 q = true := by decide +kernel
theorem sq_a0_19 : ∀ q, q < 61 → sqok 0 19 q = true := by decide +kernel
theorem sq_a0_20 : ∀ q, q < 61 → sqok 0 20 q = true := by decide +kernel

