theorem sq_a2_16 : ∀ q, q < 61 → sqok 2 16 q = true := by decide +kernel
theorem sq_a2_17 : ∀ q, q < 61 → sqok 2 17 q = true := by decide +kernel
theorem sq_a2_18 : ∀ q, q < 61 → sqok 2 18 q = true := by decide +kernel
theorem sq_a2_19 : ∀ q, q < 61 → sqok 2 19 q = true := by decide +kernel
theorem sq_a2_20 : ∀ q, q < 61 → sqok 2 20 q = true := by decide +kernel

