theorem sq_a0_6 : ∀ q, q < 61 → sqok 0 6 q = true := by decide +kernel
theorem sq_a0_7 : ∀ q, q < 61 → sqok 0 7 q = true := by decide +kernel
theorem sq_a0_8 : ∀ q, q < 61 → sqok 0 8 q = true := by decide +kernel
theorem sq_a0_9 : ∀ q, q < 61 → sqok 0 9 q = true := by decide +kernel
theorem sq_a0_10 : ∀ q, q < 61 → sqok 0 10 q = true := by decide +kernel

