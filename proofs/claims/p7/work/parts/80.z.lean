theorem n_z06 {x : Int} (h : x = 0) : 0 ≤ x ∧ x ≤ 6 := by rw [h]; decide
theorem n_z10 {x : Int} (h : x = 0) : x ≤ 10 := by rw [h]; decide
