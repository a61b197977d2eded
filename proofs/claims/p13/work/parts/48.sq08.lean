theorem sq_a1_16 : ∀ q, q < 61 → sqok 1 16 q = true := by decide +kernel
theorem sq_a1_17 : ∀ q, q < 61 → sqok 1 17 q = true := by decide +kernel
theorem sq_a1_18 : ∀ q, q < 61 → sqok 1 18 q = true := by decide +kernel
theorem sq_a1_19 : ∀ q, q < 61 → sqok 1 19 q = true := by decide +kernel
theorem sq_a1_20 : ∀ q, q < 61 → sqok 1 20 q = true := by decide +kernel

