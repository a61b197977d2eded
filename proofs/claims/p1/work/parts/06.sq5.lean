theorem sq_a1_0 : ∀ q, q < 61 → sqok true 0 q = true := by decide +kernel
theorem sq_a1_1 : ∀ q, q < 61 → sqok true 1 q = true := by decide +kernel
theorem sq_a1_2 : ∀ q, q < 61 → sqok true 2 q = true := by decide +kernel
theorem sq_a1_3 : ∀ q, q < 61 → sqok true 3 q = true := by decide +kernel
theorem sq_a1_4 : ∀ q, q < 61 → sqok true 4 q = true := by decide +kernel
theorem sq_a1_5 : ∀ q, q < 61 → sqok true 5 q = true := by decide +kernel
