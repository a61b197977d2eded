theorem sq_a0_11 : ∀ q, q < 61 → sqok 0 11 q = true := by decide +kernel
theorem sq_a0_12 : ∀ q, q < 61 → sqok 0 12 q = true := by decide +kernel
theorem sq_a0_13 : ∀ q, q < 61 → sqok 0 13 q = true := by decide +kernel
theorem sq_a0_14 : ∀ q, q < 61 → sqok 0 14 q = true := by decide +kernel
theorem sq_a0_15 : ∀ q, q < 61 → sqok 0 15 q = true := by decide +kernel

