theorem sq_a2_0 : ∀ q, q < 61 → sqok 2 0 q = true := by decide +kernel
theorem sq_a2_1 : ∀ q, q < 61 → sqok 2 1 q = true := by decide +kernel
theorem sq_a2_2 : ∀ q, q < 61 → sqok 2 2 q = true := by decide +kernel
theorem sq_a2_3 : ∀ q, q < 61 → sqok 2 3 q = true := by decide +kernel
theorem sq_a2_4 : ∀ q, q < 61 → sqok 2 4 q = true := by decide +kernel
theorem sq_a2_5 : ∀ q, q < 61 → sqok 2 5 q = true := by decide +kernel

