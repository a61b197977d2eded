theorem sq_a1_6 : ∀ q, q < 61 → sqok 1 6 q = true := by decide +kernel
theorem sq_a1_7 : ∀ q, q < 61 → sqok 1 7 q = true := by decide +kernel
theorem sq_a1_8 : ∀ q, q < 61 → sqok 1 8 q = true := by decide +kernel
theorem sq_a1_9 : ∀ q, q < 61 → sqok 1 9 q = true := by decide +kernel
theorem sq_a1_10 : ∀ q, q < 61 → sqok 1 10 q = true := by decide +kernel

