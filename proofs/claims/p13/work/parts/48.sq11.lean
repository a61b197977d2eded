theorem sq_a2_11 : ∀ q, q < 61 → sqok 2 11 q = true := by decide +kernel
theorem sq_a2_12 : ∀ q, q < 61 → sqok 2 12 q = true := by decide +kernel
theorem sq_a2_13 : ∀ q, q < 61 → sqok 2 13 q = true := by decide +kernel
theorem sq_a2_14 : ∀ q, q < 61 → sqok 2 14 q = true := by decide +kernel
theorem sq_a2_15 : ∀ q, q < 61 → sqok 2 15 q = true := by decide +kernel

