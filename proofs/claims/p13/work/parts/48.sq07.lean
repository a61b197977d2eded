theorem sq_a1_11 : ∀ q, q < 61 → sqok 1 11 q = true := by decide +kernel
theorem sq_a1_12 : ∀ q, q < 61 → sqok 1 12 q = true := by decide +kernel
theorem sq_a1_13 : ∀ q, q < 61 → sqok 1 13 q = true := by decide +kernel
theorem sq_a1_14 : ∀ q, q < 61 → sqok 1 14 q = true := by decide +kernel
theorem sq_a1_15 : ∀ q, q < 61 → sqok 1 15 q = true := by decide +kernel

