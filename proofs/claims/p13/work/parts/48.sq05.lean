theorem sq_a1_0 : ∀ q, q < 61 → sqok 1 0 q = true := by decide +kernel
theorem sq_a1_1 : ∀ q, q < 61 → sqok 1 1 q = true := by decide +kernel
theorem sq_a1_2 : ∀ q, q < 61 → sqok 1 2 q = true := by decide +kernel
theorem sq_a1_3 : ∀ q, q < 61 → sqok 1 3 q = true := by decide +kernel
theorem sq_a1_4 : ∀ q, q < 61 → sqok 1 4 q = true := by decide +kernel
theorem sq_a1_5 : ∀ q, q < 61 → sqok 1 5 q = true := by decide +kernel

