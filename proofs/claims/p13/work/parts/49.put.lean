
theorem in01 {x : Int32} (h : x = 0 ∨ x = 1) : vp_in x 2 := by rcases h with rfl | rfl <;> (unfold vp_in; decide)

