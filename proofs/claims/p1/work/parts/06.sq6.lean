theorem sq_a1_6 : ∀ q, q < 61 → sqok true 6 q = true := by decide +kernel
theorem sq_a1_7 : ∀ q, q < 61 → sqok true 7 q = true := by decide +kernel
theorem sq_a1_8 : ∀ q, q < 61 → sqok true 8 q = true := by decide +kernel
theorem sq_a1_9 : ∀ q, q < 61 → sqok true 9 q = true := by decide +kernel
theorem sq_a1_10 : ∀ q, q < 61 → sqok true 10 q = true := by decide +kernel
