theorem sq_a2_6 : ∀ q, q < 61 → sqok 2 6 q = true := by decide +kernel
theorem sq_a2_7 : ∀ q, q < 61 → sqok 2 7 q = true := by decide +kernel
theorem sq_a2_8 : ∀ q, q < 61 → sqok 2 8 q = true := by decide +kernel
theorem sq_a2_9 : ∀ q, q < 61 → sqok 2 9 q = true := by decide +kernel
theorem sq_a2_10 : ∀ q, q < 61 → sqok 2 10 q = true := by decide +kernel

