theorem sq_a0_0 : ∀ q, q < 61 → sqok 0 0 q = true := by decide +kernel
theorem sq_a0_1 : ∀ q, q < 61 → sqok 0 1 q = true := by decide +kernel
theorem sq_a0_2 : ∀ q, q < 61 → sqok 0 2 q = true := by decide +kernel
theorem sq_a0_3 : ∀ q, q < 61 → sqok 0 3 q = true := by decide +kernel
theorem sq_a0_4 : ∀ q, q < 61 → sqok 0 4 q = true := by decide +kernel
theorem sq_a0_5 : ∀ q, q < 61 → sqok 0 5 q = true := by decide +kernel

